section
-- ===== PART A: goes FIRST, ahead of the names: the tables' words, and 'selects' of the private methods out of them =====
/-- a private method of a class that the tables say can be made, by its rows of tables_1 -/
def lw_okq (q : MethodName × Nat) : Prop := (q.1.cls ≠ "java/lang/invoke/MethodHandle" ∧ q.1.cls ≠ "java/lang/invoke/VarHandle") ∧ Cond.instantiable q.1.cls q.2 ∈ tables_1 ∧ Cond.privateMethod q.1 ∈ tables_1 ∧ Cond.instanceMethod q.1 ∈ tables_1
theorem lw_p0 : lw_okq (⟨"FeedModulus", "requireRoomForPart", "()V"⟩, 4) := ⟨⟨by decide +kernel, by decide +kernel⟩, List.mem_of_getElem? (i := 16) (by decide +kernel), List.mem_of_getElem? (i := 149) (by decide +kernel), List.mem_of_getElem? (i := 150) (by decide +kernel)⟩
theorem lw_p1 : lw_okq (⟨"java/lang/Throwable", "fillInStackTrace", "(I)Ljava/lang/Throwable;"⟩, 6) := ⟨⟨by decide +kernel, by decide +kernel⟩, List.mem_of_getElem? (i := 196) (by decide +kernel), List.mem_of_getElem? (i := 194) (by decide +kernel), List.mem_of_getElem? (i := 195) (by decide +kernel)⟩
theorem lw_p2 : lw_okq (⟨"FeedModulus$Parts", "open", "(IJ)I"⟩, 8) := ⟨⟨by decide +kernel, by decide +kernel⟩, List.mem_of_getElem? (i := 24) (by decide +kernel), List.mem_of_getElem? (i := 249) (by decide +kernel), List.mem_of_getElem? (i := 250) (by decide +kernel)⟩
theorem lw_p3 : lw_okq (⟨"FeedModulus$Parts", "addFace", "(III)V"⟩, 8) := ⟨⟨by decide +kernel, by decide +kernel⟩, List.mem_of_getElem? (i := 24) (by decide +kernel), List.mem_of_getElem? (i := 253) (by decide +kernel), List.mem_of_getElem? (i := 254) (by decide +kernel)⟩
theorem lw_p4 : lw_okq (⟨"FeedModulus", "requirePart", "(I)V"⟩, 4) := ⟨⟨by decide +kernel, by decide +kernel⟩, List.mem_of_getElem? (i := 16) (by decide +kernel), List.mem_of_getElem? (i := 280) (by decide +kernel), List.mem_of_getElem? (i := 281) (by decide +kernel)⟩
theorem lw_p5 : lw_okq (⟨"FeedModulus", "requireTold", "(I)V"⟩, 4) := ⟨⟨by decide +kernel, by decide +kernel⟩, List.mem_of_getElem? (i := 16) (by decide +kernel), List.mem_of_getElem? (i := 320) (by decide +kernel), List.mem_of_getElem? (i := 321) (by decide +kernel)⟩
theorem lw_p6 : lw_okq (⟨"FeedModulus$Parts", "isEarlier", "(II)Z"⟩, 8) := ⟨⟨by decide +kernel, by decide +kernel⟩, List.mem_of_getElem? (i := 24) (by decide +kernel), List.mem_of_getElem? (i := 395) (by decide +kernel), List.mem_of_getElem? (i := 396) (by decide +kernel)⟩
theorem lw_p7 : lw_okq (⟨"FeedModulus$Parts", "compare", "(II)I"⟩, 8) := ⟨⟨by decide +kernel, by decide +kernel⟩, List.mem_of_getElem? (i := 24) (by decide +kernel), List.mem_of_getElem? (i := 399) (by decide +kernel), List.mem_of_getElem? (i := 400) (by decide +kernel)⟩
theorem lw_p8 : lw_okq (⟨"FeedModulus", "whatFeeds", "(I)I"⟩, 4) := ⟨⟨by decide +kernel, by decide +kernel⟩, List.mem_of_getElem? (i := 16) (by decide +kernel), List.mem_of_getElem? (i := 460) (by decide +kernel), List.mem_of_getElem? (i := 461) (by decide +kernel)⟩
theorem lw_p9 : lw_okq (⟨"FeedModulus", "requireFlowRows", "()V"⟩, 4) := ⟨⟨by decide +kernel, by decide +kernel⟩, List.mem_of_getElem? (i := 16) (by decide +kernel), List.mem_of_getElem? (i := 513) (by decide +kernel), List.mem_of_getElem? (i := 514) (by decide +kernel)⟩
theorem lw_p10 : lw_okq (⟨"FeedModulus$FlowTable", "flowBetween", "(III)I"⟩, 3) := ⟨⟨by decide +kernel, by decide +kernel⟩, List.mem_of_getElem? (i := 74) (by decide +kernel), List.mem_of_getElem? (i := 526) (by decide +kernel), List.mem_of_getElem? (i := 527) (by decide +kernel)⟩
theorem lw_p11 : lw_okq (⟨"FeedModulus$MoldingBox", "openShelf", "(I)V"⟩, 10) := ⟨⟨by decide +kernel, by decide +kernel⟩, List.mem_of_getElem? (i := 90) (by decide +kernel), List.mem_of_getElem? (i := 587) (by decide +kernel), List.mem_of_getElem? (i := 588) (by decide +kernel)⟩
theorem lw_p12 : lw_okq (⟨"FeedModulusModel", "throwing", "(ZZZ)Z"⟩, 22) := ⟨⟨by decide +kernel, by decide +kernel⟩, List.mem_of_getElem? (i := 612) (by decide +kernel), List.mem_of_getElem? (i := 699) (by decide +kernel), List.mem_of_getElem? (i := 700) (by decide +kernel)⟩
theorem lw_p13 : lw_okq (⟨"FeedModulusModel", "add", "(ZIII)I"⟩, 22) := ⟨⟨by decide +kernel, by decide +kernel⟩, List.mem_of_getElem? (i := 612) (by decide +kernel), List.mem_of_getElem? (i := 703) (by decide +kernel), List.mem_of_getElem? (i := 704) (by decide +kernel)⟩
theorem lw_p14 : lw_okq (⟨"FeedModulusModel", "isPart", "(I)Z"⟩, 22) := ⟨⟨by decide +kernel, by decide +kernel⟩, List.mem_of_getElem? (i := 612) (by decide +kernel), List.mem_of_getElem? (i := 715) (by decide +kernel), List.mem_of_getElem? (i := 716) (by decide +kernel)⟩
theorem lw_p15 : lw_okq (⟨"FeedModulusModel", "lowOf", "(I)J"⟩, 22) := ⟨⟨by decide +kernel, by decide +kernel⟩, List.mem_of_getElem? (i := 612) (by decide +kernel), List.mem_of_getElem? (i := 723) (by decide +kernel), List.mem_of_getElem? (i := 724) (by decide +kernel)⟩
def lw_privs_1 : List (MethodName × Nat) := [(⟨"FeedModulus", "requireRoomForPart", "()V"⟩, 4), (⟨"java/lang/Throwable", "fillInStackTrace", "(I)Ljava/lang/Throwable;"⟩, 6), (⟨"FeedModulus$Parts", "open", "(IJ)I"⟩, 8), (⟨"FeedModulus$Parts", "addFace", "(III)V"⟩, 8), (⟨"FeedModulus", "requirePart", "(I)V"⟩, 4), (⟨"FeedModulus", "requireTold", "(I)V"⟩, 4), (⟨"FeedModulus$Parts", "isEarlier", "(II)Z"⟩, 8), (⟨"FeedModulus$Parts", "compare", "(II)I"⟩, 8), (⟨"FeedModulus", "whatFeeds", "(I)I"⟩, 4), (⟨"FeedModulus", "requireFlowRows", "()V"⟩, 4), (⟨"FeedModulus$FlowTable", "flowBetween", "(III)I"⟩, 3), (⟨"FeedModulus$MoldingBox", "openShelf", "(I)V"⟩, 10), (⟨"FeedModulusModel", "throwing", "(ZZZ)Z"⟩, 22), (⟨"FeedModulusModel", "add", "(ZIII)I"⟩, 22), (⟨"FeedModulusModel", "isPart", "(I)Z"⟩, 22), (⟨"FeedModulusModel", "lowOf", "(I)J"⟩, 22)]
theorem lw_r1 : ∀ q ∈ lw_privs_1, lw_okq q := List.forall_mem_cons.mpr ⟨lw_p0, List.forall_mem_cons.mpr ⟨lw_p1, List.forall_mem_cons.mpr ⟨lw_p2, List.forall_mem_cons.mpr ⟨lw_p3, List.forall_mem_cons.mpr ⟨lw_p4, List.forall_mem_cons.mpr ⟨lw_p5, List.forall_mem_cons.mpr ⟨lw_p6, List.forall_mem_cons.mpr ⟨lw_p7, List.forall_mem_cons.mpr ⟨lw_p8, List.forall_mem_cons.mpr ⟨lw_p9, List.forall_mem_cons.mpr ⟨lw_p10, List.forall_mem_cons.mpr ⟨lw_p11, List.forall_mem_cons.mpr ⟨lw_p12, List.forall_mem_cons.mpr ⟨lw_p13, List.forall_mem_cons.mpr ⟨lw_p14, List.forall_mem_cons.mpr ⟨lw_p15, fun _ h => absurd h List.not_mem_nil⟩⟩⟩⟩⟩⟩⟩⟩⟩⟩⟩⟩⟩⟩⟩⟩
theorem lw_p16 : lw_okq (⟨"FeedModulusModel", "faces", "(II)I"⟩, 22) := ⟨⟨by decide +kernel, by decide +kernel⟩, List.mem_of_getElem? (i := 612) (by decide +kernel), List.mem_of_getElem? (i := 728) (by decide +kernel), List.mem_of_getElem? (i := 729) (by decide +kernel)⟩
theorem lw_p17 : lw_okq (⟨"FeedModulusModel", "upOf", "(I)J"⟩, 22) := ⟨⟨by decide +kernel, by decide +kernel⟩, List.mem_of_getElem? (i := 612) (by decide +kernel), List.mem_of_getElem? (i := 732) (by decide +kernel), List.mem_of_getElem? (i := 733) (by decide +kernel)⟩
theorem lw_p18 : lw_okq (⟨"FeedModulusModel", "isTold", "(I)Z"⟩, 22) := ⟨⟨by decide +kernel, by decide +kernel⟩, List.mem_of_getElem? (i := 612) (by decide +kernel), List.mem_of_getElem? (i := 744) (by decide +kernel), List.mem_of_getElem? (i := 745) (by decide +kernel)⟩
theorem lw_p19 : lw_okq (⟨"FeedModulusModel", "compare", "(II)J"⟩, 22) := ⟨⟨by decide +kernel, by decide +kernel⟩, List.mem_of_getElem? (i := 612) (by decide +kernel), List.mem_of_getElem? (i := 748) (by decide +kernel), List.mem_of_getElem? (i := 749) (by decide +kernel)⟩
theorem lw_p20 : lw_okq (⟨"FeedModulusModel", "rowFor", "(I)I"⟩, 22) := ⟨⟨by decide +kernel, by decide +kernel⟩, List.mem_of_getElem? (i := 612) (by decide +kernel), List.mem_of_getElem? (i := 760) (by decide +kernel), List.mem_of_getElem? (i := 761) (by decide +kernel)⟩
theorem lw_p21 : lw_okq (⟨"FeedModulusModel", "feederOf", "(I)I"⟩, 22) := ⟨⟨by decide +kernel, by decide +kernel⟩, List.mem_of_getElem? (i := 612) (by decide +kernel), List.mem_of_getElem? (i := 774) (by decide +kernel), List.mem_of_getElem? (i := 775) (by decide +kernel)⟩
theorem lw_p22 : lw_okq (⟨"FeedModulusModel", "flowAt", "(I)I"⟩, 22) := ⟨⟨by decide +kernel, by decide +kernel⟩, List.mem_of_getElem? (i := 612) (by decide +kernel), List.mem_of_getElem? (i := 791) (by decide +kernel), List.mem_of_getElem? (i := 792) (by decide +kernel)⟩
theorem lw_p23 : lw_okq (⟨"FeedModulusModel", "shelfFor", "(II)I"⟩, 22) := ⟨⟨by decide +kernel, by decide +kernel⟩, List.mem_of_getElem? (i := 612) (by decide +kernel), List.mem_of_getElem? (i := 814) (by decide +kernel), List.mem_of_getElem? (i := 815) (by decide +kernel)⟩
theorem lw_p24 : lw_okq (⟨"FeedModulusModel", "taken", "(I)I"⟩, 22) := ⟨⟨by decide +kernel, by decide +kernel⟩, List.mem_of_getElem? (i := 612) (by decide +kernel), List.mem_of_getElem? (i := 818) (by decide +kernel), List.mem_of_getElem? (i := 819) (by decide +kernel)⟩
theorem lw_p25 : lw_okq (⟨"FeedModulusModel", "shelvesEnd", "()I"⟩, 22) := ⟨⟨by decide +kernel, by decide +kernel⟩, List.mem_of_getElem? (i := 612) (by decide +kernel), List.mem_of_getElem? (i := 822) (by decide +kernel), List.mem_of_getElem? (i := 823) (by decide +kernel)⟩
def lw_privs_2 : List (MethodName × Nat) := [(⟨"FeedModulusModel", "faces", "(II)I"⟩, 22), (⟨"FeedModulusModel", "upOf", "(I)J"⟩, 22), (⟨"FeedModulusModel", "isTold", "(I)Z"⟩, 22), (⟨"FeedModulusModel", "compare", "(II)J"⟩, 22), (⟨"FeedModulusModel", "rowFor", "(I)I"⟩, 22), (⟨"FeedModulusModel", "feederOf", "(I)I"⟩, 22), (⟨"FeedModulusModel", "flowAt", "(I)I"⟩, 22), (⟨"FeedModulusModel", "shelfFor", "(II)I"⟩, 22), (⟨"FeedModulusModel", "taken", "(I)I"⟩, 22), (⟨"FeedModulusModel", "shelvesEnd", "()I"⟩, 22)]
theorem lw_r2 : ∀ q ∈ lw_privs_2, lw_okq q := List.forall_mem_cons.mpr ⟨lw_p16, List.forall_mem_cons.mpr ⟨lw_p17, List.forall_mem_cons.mpr ⟨lw_p18, List.forall_mem_cons.mpr ⟨lw_p19, List.forall_mem_cons.mpr ⟨lw_p20, List.forall_mem_cons.mpr ⟨lw_p21, List.forall_mem_cons.mpr ⟨lw_p22, List.forall_mem_cons.mpr ⟨lw_p23, List.forall_mem_cons.mpr ⟨lw_p24, List.forall_mem_cons.mpr ⟨lw_p25, fun _ h => absurd h List.not_mem_nil⟩⟩⟩⟩⟩⟩⟩⟩⟩⟩
def lw_privs : List (MethodName × Nat) := lw_privs_1 ++ (lw_privs_2)
def lw_tbl : List Cond := k2_sels lw_privs ++ tables_1
theorem lw_privs_ok : ∀ q ∈ lw_privs, lw_okq q := by
  show ∀ q ∈ lw_privs_1 ++ (lw_privs_2), lw_okq q
  exact List.forall_mem_append.mpr ⟨lw_r1, lw_r2⟩
end
section

theorem goodIn_r {big : List Cond} (ws : List Cond) (ps : List Nat) (hp : ws = ps.filterMap (fun i => big[i]?)) (h : ws.all goodWord = true) : GoodIn big ws := by
  intro w hw
  have h1 := List.all_eq_true.mp h w hw
  rw [hp] at hw
  obtain ⟨i, -, hi⟩ := List.mem_filterMap.mp hw
  have hm : w ∈ big := by first | exact List.mem_of_getElem? hi | exact List.getElem?_mem hi
  exact ⟨hm, good_of_word h1⟩
theorem goodIn_app {big a b : List Cond} (ha : GoodIn big a) (hb : GoodIn big b) : GoodIn big (a ++ b) := fun w h => (List.mem_append.mp h).elim (ha w) (hb w)
theorem goodIn_ca {big a b : List Cond} {c : Cond} (ha : GoodIn big (c :: a)) (hb : GoodIn big b) : GoodIn big (c :: (a ++ b)) := fun w h => (List.mem_cons.mp h).elim (fun e => ha w (List.mem_cons.mpr (Or.inl e))) (fun h => (List.mem_append.mp h).elim (fun h => ha w (List.mem_cons.mpr (Or.inr h))) (hb w))
theorem goodIn_sub {big ws : List Cond} (hm : ∀ w ∈ ws, w ∈ big) (h : ws.all goodWord = true) : GoodIn big ws := fun w hw => ⟨hm w hw, good_of_word (List.all_eq_true.mp h w hw)⟩



section VXA


def vx_T (XC : String → State → State → Prop) (st : State) (q : Addr) (t : State) (mc ms : Nat) (free : Addr → Prop) : Prop :=
  ∃ (E : String) (ce : Cell) (L : List Loc), XC E st t ∧ t.heap[q]? = some ce ∧ ce.vm = .none ∧ st.vm.findClass E = some ce.cls ∧ st.WarmedH t.vm ∧ st.sameButNew ({ t with vm := st.vm } : State) L mc ms ∧ ∀ z ∈ L, free z.base
def vx_Q (Qc : Array Value → State → Outcome → State → Prop) (XC : String → State → State → Prop) (mc ms : Nat) (free : Addr → Prop) : Array Value → State → Outcome → State → Prop := fun a st o t =>
  (Qc a st o t ∧ ∃ L, FrameEnd st o t L mc ms ∧ ∀ q ∈ L, free q.base) ∨ ∃ q, o = .threw q ∧ vx_T XC st q t mc ms free

def vx_Met (l : Launch) (y : MethodName) (ws : List Cond) (rm : Room) (Pc : Array Value → State → Prop) (Qc : Array Value → State → Outcome → State → Prop) (XC : String → State → State → Prop) (mc ms : Nat) (free : Addr → Prop) : Prop :=
  MetFree l y (headSpec ws rm) Pc (fun _ _ _ _ _ => True) (vx_Q Qc XC mc ms free)
def vx_Post (XC : String → State → State → Prop) (mc ms : Nat) (free : Addr → Prop) : Pt → Array Value → Addr → Pt → Prop := fun A a q B =>
  ∃ (g : JFrame) (mk : MethodId) (t : State) (L : List Loc) (E : String) (ce : Cell), B.U.heap = t.heap ∧ B.U.vm = t.vm ∧ XC E (A.U.calling g mk a) t ∧ t.heap[q]? = some ce ∧ ce.vm = .none ∧ A.U.vm.findClass E = some ce.cls ∧ B.locs = A.locs ++ L ∧ (∀ z ∈ L, free z.base) ∧ B.cells = A.cells + mc ∧ B.slots = A.slots + ms
def vx_Back (l : Launch) (R : Room) (p : Program) (e : Env) (below : List Frame) (s : State) (sargs : Array Value) (y : MethodName) (len W9 : Nat)
    (Pre : Pt → Array Value → Prop) (Post : Pt → Array Value → Option Value → Pt → Prop) (PostX : Pt → Array Value → Addr → Pt → Prop) : Prop :=
  ∀ (m : MethodId) (meth : Method) (c : Code) (A : Pt) (g : JFrame) (ig : Instr) (mk : MethodId) (a : Array Value),
    Stand p l e R s m sargs below meth c A.U A.locs A.cells A.slots → g.method = m → g.locals.size = c.maxLocals → decode c.code g.pc = .ok (ig, len) →
    2 * g.monitorRoom + (g.stack.map fun v => v.category).sum ≤ W9 → A.U.methodNamed? y = some mk → Pre A a →
    (∃ (v : Option Value) (B : Pt), Stand p l e R s m sargs below meth c B.U B.locs B.cells B.slots ∧ Post A a v B ∧
      Steps p.tables e below (doInvoke e (A.U.setTop g) [] mk a).1 (B.U.setTop { g with pc := g.pc + len, stack := v.toList ++ g.stack })) ∨
    (∃ (q : Addr) (B : Pt), Stand p l e R s m sargs below meth c B.U B.locs B.cells B.slots ∧ PostX A a q B ∧
      Steps p.tables e below (doInvoke e (A.U.setTop g) [] mk a).1 ((B.U.setTop g).pushFrame (.throwing q)))
section Payer
variable {l : Launch} {R : Room} {p : Program} {e : Env} {below : List Frame} {s : State} {sargs : Array Value} {y : MethodName} {len W9 : Nat}
theorem vx_back {ws : List Cond} {rm : Room} {Pc : Array Value → State → Prop} {Qc : Array Value → State → Outcome → State → Prop} {XC : String → State → State → Prop} {mc ms : Nat} {free : Addr → Prop} {bytes : ByteArray} {maxL : Nat} {ret : Option FieldType}
    (hM : vx_Met l y ws rm Pc Qc XC mc ms free) (hblind : FrameBlind Pc) (hrc : rm.cells = mc) (hrs : rm.slots = ms)
    (hframes : rm.frames + 1 ≤ R.frames) (hlocals : W9 + (maxL + 11) + rm.locals ≤ R.locals)
    (hws : ∀ w ∈ ws, ∀ a' U, s.WarmedH U.vm → w.before a' U = true) (hcode : Cond.code y bytes maxL ret ∈ ws) (hinit : ∀ a' U, s.WarmedH U.vm → (Cond.initialized y.cls).before a' U = true) :
    vx_Back l R p e below s sargs y len W9 (PreOf R mc ms Pc) (PostOf Qc mc ms free) (vx_Post XC mc ms free) := by
  intro m meth c A g ig mk a X hg hsize hdg hW hn hp
  have h1 : (headSpec ws rm).pre.before a A.U = true := atoms_intro fun w hw => hws w hw _ _ X.warmed
  have h2 : (Cond.code y bytes maxL ret).before a A.U = true := hws _ hcode _ _ X.warmed
  have h3 : (Cond.initialized y.cls).before a A.U = true := hinit _ _ X.warmed
  have h4 : A.cells + (headSpec ws rm).room.cells ≤ R.cells := by rw [show (headSpec ws rm).room.cells = mc from hrc]; exact hp.1
  have h5 : A.slots + (headSpec ws rm).room.slots ≤ R.slots := by rw [show (headSpec ws rm).room.slots = ms from hrs]; exact hp.2.1
  have hPc : Pc a (A.U.calling g mk a) := hblind _ _ _ _ hp.2.2
  obtain ⟨U, Ls, c0, s0⟩ := A
  dsimp only [Pt.U, Pt.locs, Pt.cells, Pt.slots] at h1 h2 h3 h4 h5 X hn hPc ⊢
  obtain ⟨methY, cY, hmY, hcY, -, hlY, -, -, -, -⟩ := Cond.code_spec hn h2
  obtain ⟨kY, hkY, -⟩ := className_of_methodNamed hn
  have hinitY : kY.init = .initialized := Cond.initialized_spec (findClass_of_methodNamed hn) hkY h3
  have h : At U g.method c below := by rw [hg]; exact X.here
  have hlocals9 : W9 + (maxL + 11) + (headSpec ws rm).room.locals ≤ R.locals := hlocals
  have happ : (headSpec ws rm).appliesLoose y e.platform (U.calling g mk a) = true :=
    Spec.appliesLoose_calling (g := g) h hdg hn hkY hinitY
      (X.room_calling (g := g) (R' := (headSpec ws rm).room) hsize hmY hcY hframes (by rw [hlY]; omega) h4 h5) h1
  obtain ⟨mid, hmid⟩ := h.above
  have hfr : (U.setTop g).frames = (.java g :: mid) ++ below := by rw [State.frames_setTop' g h.top, hmid]; rfl
  obtain ⟨o, s₂, hsteps, -, hend, hq⟩ := Steps.callFree hM p X.admits X.cas X.clock (acts := []) hfr happ hPc trivial
  have hq' : vx_Q Qc XC mc ms free a (U.calling g mk a) o s₂ := hq
  rw [State.frames_setTop' g h.top] at hend
  obtain ⟨g₀, hg0⟩ := Option.isSome_iff_exists.mp h.top
  obtain ⟨r, hr⟩ := State.topJava?_eq_some.mp hg0
  have hr' : (({ U with heap := s₂.heap, slotsUsed := s₂.slotsUsed } : State).setVm s₂.vm).frames = .java g₀ :: r := hr
  rcases hq' with ⟨hqc, L, hfe, hL⟩ | ⟨q, rfl, E, ce, L, hx, hce, hcv, hcl, hW₂, hsm, hL⟩
  · obtain ⟨⟨v, rfl⟩, hW₂, e2, q2, q3, q4, q5, q6⟩ := id hfe
    have e3 : s₂ = ({ (U.calling g mk a).setFrames s₂.frames with heap := s₂.heap, slotsUsed := s₂.slotsUsed } : State).setVm s₂.vm := by
      have : s₂ = ({ s₂ with vm := (U.calling g mk a).vm } : State).setVm s₂.vm := rfl
      rw [e2] at this
      exact this
    obtain ⟨c₂, i₂, len₂, hc₂, hd₂, hf₂⟩ := hend
    have hW' : U.WarmedH s₂.vm := hW₂
    have hcc : c₂ = c := by
      have h1 : s₂.code? g.method = U.code? g.method := by
        rw [State.code?_eq, State.code?_eq, hW'.alike.method?]
      exact Option.some.inj (hc₂.symm.trans (h1.trans h.code))
    subst hcc
    have hlen : len₂ = len := by rw [hdg] at hd₂; cases hd₂; rfl
    subst hlen
    have hs₂ : s₂ = (({ U with heap := s₂.heap, slotsUsed := s₂.slotsUsed } : State).setVm s₂.vm).setTop { g with pc := g.pc + len₂, stack := v.toList ++ g.stack } := by
      refine e3.trans ?_
      rw [hf₂, State.calling_eq h.top, State.setFrames_setFrames, State.setTop_of_frames _ hr', hr]
      rfl
    have hsame : U.sameButNew ({ U with heap := s₂.heap, slotsUsed := s₂.slotsUsed } : State) L mc ms := by
      refine ⟨?_, q2, q3, q4, q5, q6⟩
      obtain ⟨t, ht, -⟩ := State.frames_cons hr
      show ({ U with heap := s₂.heap, slotsUsed := s₂.slotsUsed } : State) = { U.setFrames U.frames with heap := s₂.heap, slotsUsed := s₂.slotsUsed }
      rw [State.setFrames_self ht]
    subst hg
    refine Or.inl ⟨v, ⟨(({ U with heap := s₂.heap, slotsUsed := s₂.slotsUsed } : State).setVm s₂.vm), Ls ++ L, c0 + mc, s0 + ms⟩,
      ⟨X.admits, X.cas, X.clock, X.frames, X.room, X.hears, X.method, X.code, (X.here.setHeapUsed s₂.heap s₂.slotsUsed).setVm hW'.alike, X.tail, State.WarmedH.trans X.warmed hW', X.limits, X.bytes, X.same.trans (hsame.setVm s.vm)⟩,
      ⟨g, mk, s₂, L, rfl, rfl, hqc, rfl, hL, rfl, rfl⟩, ?_⟩
    show Steps p.tables e below _ ((({ U with heap := s₂.heap, slotsUsed := s₂.slotsUsed } : State).setVm s₂.vm).setTop { g with pc := g.pc + len₂, stack := v.toList ++ g.stack })
    rw [← hs₂]
    exact hsteps
  · obtain ⟨e2, q2, q3, q4, q5, q6⟩ := id hsm
    have e3 : s₂ = ({ (U.calling g mk a).setFrames s₂.frames with heap := s₂.heap, slotsUsed := s₂.slotsUsed } : State).setVm s₂.vm := by
      have : s₂ = ({ s₂ with vm := (U.calling g mk a).vm } : State).setVm s₂.vm := rfl
      rw [e2] at this
      exact this
    have hf₂ : s₂.frames = .throwing q :: .java g :: U.frames.tail := hend
    have hW' : U.WarmedH s₂.vm := hW₂
    have hs₂ : s₂ = ((({ U with heap := s₂.heap, slotsUsed := s₂.slotsUsed } : State).setVm s₂.vm).setTop g).pushFrame (.throwing q) := by
      refine e3.trans ?_
      rw [hf₂, State.calling_eq h.top, State.setFrames_setFrames, State.pushFrame, State.frames_setTop _ hr', State.setTop_of_frames _ hr', State.setFrames_setFrames, hr]
      rfl
    have hsame : U.sameButNew ({ U with heap := s₂.heap, slotsUsed := s₂.slotsUsed } : State) L mc ms := by
      refine ⟨?_, q2, q3, q4, q5, q6⟩
      obtain ⟨t, ht, -⟩ := State.frames_cons hr
      show ({ U with heap := s₂.heap, slotsUsed := s₂.slotsUsed } : State) = { U.setFrames U.frames with heap := s₂.heap, slotsUsed := s₂.slotsUsed }
      rw [State.setFrames_self ht]
    subst hg
    refine Or.inr ⟨q, ⟨(({ U with heap := s₂.heap, slotsUsed := s₂.slotsUsed } : State).setVm s₂.vm), Ls ++ L, c0 + mc, s0 + ms⟩,
      ⟨X.admits, X.cas, X.clock, X.frames, X.room, X.hears, X.method, X.code, (X.here.setHeapUsed s₂.heap s₂.slotsUsed).setVm hW'.alike, X.tail, State.WarmedH.trans X.warmed hW', X.limits, X.bytes, X.same.trans (hsame.setVm s.vm)⟩,
      ⟨g, mk, s₂, L, E, ce, rfl, rfl, hx, hce, hcv, hcl, rfl, hL, rfl, rfl⟩, ?_⟩
    show Steps p.tables e below _ (((({ U with heap := s₂.heap, slotsUsed := s₂.slotsUsed } : State).setVm s₂.vm).setTop g).pushFrame (.throwing q))
    rw [← hs₂]
    exact hsteps
end Payer
section Calls
variable {p : Program} {l : Launch} {e : Env} {R : Room} {s : State} {m : MethodId} {args : Array Value} {below : List Frame} {meth : Method} {c : Code} {T : State} {locs : List Loc} {cells slots : Nat}
theorem vx_callV (X : Stand p l e R s m args below meth c T locs cells slots) (hexec : p.tables.exec = Jvm.exec) {own C : String} {index : Nat} {y : MethodName} {bytes : ByteArray} {maxL : Nat} {ret : Option FieldType}
    (hown : s.vm.findClass own = some m.cls) (hlink : (Cond.methodLink own index y).before args s = true) (hinst : (Cond.instanceMethod y).before args s = true) (hsel : (Cond.selects C y y).before args s = true)
    (hcode : (Cond.code y bytes maxL ret).before args s = true) (hy : y.cls ≠ "java/lang/invoke/MethodHandle" ∧ y.cls ≠ "java/lang/invoke/VarHandle")
    {W9 : Nat} {Pre : Pt → Array Value → Prop} {Post : Pt → Array Value → Option Value → Pt → Prop} {PostX : Pt → Array Value → Addr → Pt → Prop} (hK : vx_Back l R p e below s args y 3 W9 Pre Post PostX)
    {b : Addr} {cellB : Cell} (hcell : T.heap[b]? = some cellB) (hobj : cellB.vm.isStatics = false) (hcls : s.vm.findClass C = some cellB.cls)
    {g : JFrame} (hg : g.method = m) (hsize : g.locals.size = c.maxLocals) {argsL rest : List Value} (hlen : ∀ sig, parseMethodDescriptor y.desc = some sig → argsL.length = sig.parameters.length)
    (hstack : g.stack = argsL.reverse ++ .ref b :: rest) (hW : 2 * g.monitorRoom + (rest.map fun v => v.category).sum ≤ W9) (hdg : decode c.code g.pc = .ok (.invokevirtual index, 3))
    (hpre : ∀ vm₁, s.WarmedH vm₁ → Pre ⟨T.setVm vm₁, locs, cells, slots⟩ (Value.ref b :: argsL).toArray) :
    (∃ (v : Option Value) (vm₁ : Vm) (B : Pt), s.WarmedH vm₁ ∧ Stand p l e R s m args below meth c B.U B.locs B.cells B.slots ∧ Post ⟨T.setVm vm₁, locs, cells, slots⟩ (Value.ref b :: argsL).toArray v B ∧
      ∀ target, Steps p.tables e below (B.U.setTop { g with pc := g.pc + 3, stack := v.toList ++ rest }) target → Steps p.tables e below (T.setTop g) target) ∨
    (∃ (q : Addr) (vm₁ : Vm) (B : Pt), s.WarmedH vm₁ ∧ Stand p l e R s m args below meth c B.U B.locs B.cells B.slots ∧ PostX ⟨T.setVm vm₁, locs, cells, slots⟩ (Value.ref b :: argsL).toArray q B ∧
      Steps p.tables e below (T.setTop g) ((B.U.setTop { g with stack := rest }).pushFrame (.throwing q))) := by
  obtain ⟨mk, methM, hnamed, hmethM, hstM, habM⟩ := Cond.instanceMethod_spec hinst
  obtain ⟨methM', cM, hmethM', -, -, -, -, -, -, hsigM⟩ := Cond.code_spec hnamed hcode
  cases hmethM.symm.trans hmethM'
  obtain ⟨c2, r2, m2, q1, q2, q3, q4, kP, hkP, hkPi⟩ := Cond.selects_spec hsel
  cases hcls.symm.trans q1
  cases (State.methodFound?_of_named hnamed hy).symm.trans q2
  cases hnamed.symm.trans q3
  have hselP : selectMethod e.platform s.vm cellB.cls mk = .method mk := by rw [Launch.admits_selectMethod X.admits]; exact q4
  obtain ⟨vm₁, X₁, hstep₁⟩ := X.invokevirtual hexec hown hlink hnamed hmethM hstM hkP hkPi hy (a := b) (cell := cellB) hcell
    (fun z h => by rw [h] at hobj; cases hobj) hselP hmethM habM hkP hkPi (g := g) hg (argsL := argsL) (rest := rest) (hlen _ hsigM) hstack hdg
  rcases hK m meth c ⟨T.setVm vm₁, locs, cells, slots⟩ { g with stack := rest } (.invokevirtual index) mk (Value.ref b :: argsL).toArray X₁ hg hsize hdg hW (X₁.named hnamed) (hpre vm₁ X₁.warmed) with ⟨v, B, X', hpost, hsteps⟩ | ⟨q, B, X', hpost, hsteps⟩
  · exact Or.inl ⟨v, vm₁, B, X₁.warmed, X', hpost, fun target h => hstep₁ _ fun acts => by rw [doInvoke_state]; exact hsteps.trans h⟩
  · exact Or.inr ⟨q, vm₁, B, X₁.warmed, X', hpost, hstep₁ _ fun acts => by rw [doInvoke_state]; exact hsteps⟩
theorem vx_callS (X : Stand p l e R s m args below meth c T locs cells slots) (hexec : p.tables.exec = Jvm.exec) {own : String} {index : Nat} {y : MethodName} {bytes : ByteArray} {maxL : Nat} {ret : Option FieldType}
    (hown : s.vm.findClass own = some m.cls) (hlink : (Cond.methodLink own index y).before args s = true) (hstat : (Cond.static y).before args s = true) (hinit : (Cond.initialized y.cls).before args s = true)
    (hcode : (Cond.code y bytes maxL ret).before args s = true) (hy : y.cls ≠ "java/lang/invoke/MethodHandle" ∧ y.cls ≠ "java/lang/invoke/VarHandle")
    {W9 : Nat} {Pre : Pt → Array Value → Prop} {Post : Pt → Array Value → Option Value → Pt → Prop} {PostX : Pt → Array Value → Addr → Pt → Prop} (hK : vx_Back l R p e below s args y 3 W9 Pre Post PostX)
    {g : JFrame} (hg : g.method = m) (hsize : g.locals.size = c.maxLocals) {argsL rest : List Value} (hlen : ∀ sig, parseMethodDescriptor y.desc = some sig → argsL.length = sig.parameters.length)
    (hstack : g.stack = argsL.reverse ++ rest) (hW : 2 * g.monitorRoom + (rest.map fun v => v.category).sum ≤ W9) (hdg : decode c.code g.pc = .ok (.invokestatic index, 3))
    (hpre : ∀ vm₁, s.WarmedH vm₁ → Pre ⟨T.setVm vm₁, locs, cells, slots⟩ argsL.toArray) :
    (∃ (v : Option Value) (vm₁ : Vm) (B : Pt), s.WarmedH vm₁ ∧ Stand p l e R s m args below meth c B.U B.locs B.cells B.slots ∧ Post ⟨T.setVm vm₁, locs, cells, slots⟩ argsL.toArray v B ∧
      ∀ target, Steps p.tables e below (B.U.setTop { g with pc := g.pc + 3, stack := v.toList ++ rest }) target → Steps p.tables e below (T.setTop g) target) ∨
    (∃ (q : Addr) (vm₁ : Vm) (B : Pt), s.WarmedH vm₁ ∧ Stand p l e R s m args below meth c B.U B.locs B.cells B.slots ∧ PostX ⟨T.setVm vm₁, locs, cells, slots⟩ argsL.toArray q B ∧
      Steps p.tables e below (T.setTop g) ((B.U.setTop { g with stack := rest }).pushFrame (.throwing q))) := by
  obtain ⟨mk, hnamed⟩ := Cond.code_named hcode
  obtain ⟨methM, cM, hmethM, -, -, -, -, -, -, hsigM⟩ := Cond.code_spec hnamed hcode
  have hstatic : methM.isStatic = true := Cond.static_spec hnamed hmethM hstat
  obtain ⟨kP, hkP, -⟩ := className_of_methodNamed hnamed
  have hinitP : kP.init = .initialized := Cond.initialized_spec (findClass_of_methodNamed hnamed) hkP hinit
  obtain ⟨vm₁, X₁, hstep₁⟩ := X.invokestatic hexec hown hlink hnamed hmethM hstatic hkP hinitP hy (g := g) hg (argsL := argsL) (rest := rest) (hlen _ hsigM) hstack hdg
  rcases hK m meth c ⟨T.setVm vm₁, locs, cells, slots⟩ { g with stack := rest } (.invokestatic index) mk argsL.toArray X₁ hg hsize hdg hW (X₁.named hnamed) (hpre vm₁ X₁.warmed) with ⟨v, B, X', hpost, hsteps⟩ | ⟨q, B, X', hpost, hsteps⟩
  · exact Or.inl ⟨v, vm₁, B, X₁.warmed, X', hpost, fun target h => hstep₁ _ fun acts => by rw [doInvoke_state]; exact hsteps.trans h⟩
  · exact Or.inr ⟨q, vm₁, B, X₁.warmed, X', hpost, hstep₁ _ fun acts => by rw [doInvoke_state]; exact hsteps⟩
end Calls
theorem vx_cls {s : State} {T : State} {vm₁ : Vm} {E : String} {k : ClassId} (hW : s.WarmedH vm₁) (h : (T.setVm vm₁).vm.findClass E = some k) : s.vm.findClass E = some k := by
  have h1 : vm₁.findClass E = some k := h
  rw [hW.alike.findClass] at h1
  exact h1

def vx_W (p : Program) (l : Launch) (e : Env) (R : Room) (s : State) (m : MethodId) (args : Array Value) (below : List Frame) (meth : Method) (c : Code) (H : Heap) (locs : List Loc) (cells slots : Nat) (Q : State → Prop) (g : JFrame) (q : Addr) : Prop :=
  ∀ T : State, T.heap = H → Stand p l e R s m args below meth c T locs cells slots → ∃ t, Steps p.tables e below ((T.setTop g).pushFrame (.throwing q)) t ∧ Q t
def vx_Run (p : Program) (l : Launch) (e : Env) (R : Room) (s : State) (m : MethodId) (args : Array Value) (below : List Frame) (meth : Method) (c : Code) (H : Heap) (locs : List Loc) (cells slots mc ms : Nat) (g : JFrame) (rest : List Value) (Qa : State → Outcome → State → Prop) (XC : String → State → State → Prop) (free : Addr → Prop) : Prop :=
  ∀ T : State, T.heap = H → Stand p l e R s m args below meth c T locs cells slots →
    (∃ (v : Option Value) (st₀ t T' : State) (L : List Loc), st₀.heap = H ∧ Stand p l e R s m args below meth c T' (locs ++ L) (cells + mc) (slots + ms) ∧ (∀ q ∈ L, free q.base) ∧ T'.heap = t.heap ∧ T'.vm = t.vm ∧ Qa st₀ (.returned v) t ∧
      Goes p e below T g T' { g with pc := g.pc + 3, stack := v.toList ++ rest }) ∨
    (∃ (q : Addr) (st₀ t T' : State) (L : List Loc) (E : String) (ce : Cell), st₀.heap = H ∧ Stand p l e R s m args below meth c T' (locs ++ L) (cells + mc) (slots + ms) ∧ (∀ z ∈ L, free z.base) ∧ T'.heap = t.heap ∧ T'.vm = t.vm ∧ XC E st₀ t ∧ t.heap[q]? = some ce ∧ ce.vm = .none ∧ s.vm.findClass E = some ce.cls ∧
      Steps p.tables e below (T.setTop g) ((T'.setTop { g with stack := rest }).pushFrame (.throwing q)))
def vx_X {S : Type} (px : S → Prop) (B : String → S → State → Prop) (A : Nat → Prop) : String → State → State → Prop := fun E st t => ∃ u : S, px u ∧ B E u t ∧ va_F A st t
section Runs
variable {p : Program} {l : Launch} {e : Env} {R : Room} {s : State} {m : MethodId} {args : Array Value} {below : List Frame} {meth : Method} {c : Code} {H : Heap} {locs : List Loc} {cells slots : Nat}
variable {y : MethodName} {bytes cc : ByteArray} {maxL nL mc ms n index : Nat} {ret : Option FieldType} {ws : List Cond} {rm : Room} {Pc : Array Value → State → Prop} {Qc : Array Value → State → Outcome → State → Prop} {XC : String → State → State → Prop} {free : Addr → Prop} {Ts : List Cond} {own C : String} {b : Addr} {As rest : List Value} {g : JFrame}
theorem vx_callBack (cb : CallB R s args own index y bytes maxL ret ws rm mc ms n) (hM : vx_Met l y ws rm Pc Qc XC mc ms free) (hbl : FrameBlind Pc) : vx_Back l R p e below s args y 3 8 (PreOf R mc ms Pc) (PostOf Qc mc ms free) (vx_Post XC mc ms free) := by
  obtain ⟨hrc, hrs, hfr, hlo, hws, hcw, -, hini, -⟩ := cb
  exact vx_back (bytes := bytes) (maxL := maxL) (ret := ret) hM hbl hrc hrs hfr hlo hws hcw (fun a' U hW => word_at hW (Or.inl (by first | rfl | simp [Cond.onTables, Cond.keeps, Cond.steady])) hini)
theorem vx_runV (S : CallFix p m c cc nL s args Ts own) (hM : vx_Met l y ws rm Pc Qc XC mc ms free) (cw : CallW R s args own C index y bytes maxL ret ws rm mc ms n) (hp : PreV s H C b Pc As)
    (hg : g.method = m) (hn : As.length = n) (hsize : g.locals.size = nL) (hstack : g.stack = As.reverse ++ .ref b :: rest) (hW : 2 * g.monitorRoom + (rest.map fun v => v.category).sum ≤ 8) (hdg : decode cc g.pc = .ok (.invokevirtual index, 3)) (hf : cells + mc ≤ R.cells ∧ slots + ms ≤ R.slots) :
    vx_Run p l e R s m args below meth c H locs cells slots mc ms g rest (Qc (Value.ref b :: As).toArray) XC free := by
  have hK : vx_Back l R p e below s args y 3 8 (PreOf R mc ms Pc) (PostOf Qc mc ms free) (vx_Post XC mc ms free) := vx_callBack cw.1 hM hp.1
  obtain ⟨⟨-, -, -, -, -, -, hcode, -, hy, hlen, hl⟩, hin, hse⟩ := cw
  obtain ⟨hx, hb, hml, ho, -⟩ := S
  obtain ⟨-, ⟨cellB, hcB, hoB, hclB⟩, hPc⟩ := hp
  intro T hT X
  rcases vx_callV X hx (C := C) (bytes := bytes) (maxL := maxL) (ret := ret) ho hl hin hse hcode hy hK (by rw [hT]; exact hcB) hoB hclB hg (hsize.trans hml.symm) (argsL := As) (rest := rest) (fun sig h => hn.trans (hlen sig h)) hstack hW (by rw [hb]; exact hdg)
    (fun vm₁ hW₁ => ⟨hf.1, hf.2, hPc (T.setVm vm₁) hT hW₁⟩) with ⟨v, vm₁, ⟨U', l2, c2, s2⟩, hW₁, X', ⟨g', mk, t, L, e1, e2, hq, h1, hL, h2, h3⟩, st⟩ | ⟨q, vm₁, ⟨U', l2, c2, s2⟩, hW₁, X', ⟨g', mk, t, L, E, ce, e1, e2, hq, hce, hcv, hcl, h1, hL, h2, h3⟩, st⟩
  · dsimp only [Pt.U, Pt.locs, Pt.cells, Pt.slots] at X' e1 e2 h1 h2 h3 st
    subst h1; subst h2; subst h3
    exact Or.inl ⟨v, (T.setVm vm₁).calling g' mk (Value.ref b :: As).toArray, t, U', L, hT, X', hL, e1, e2, hq, st⟩
  · dsimp only [Pt.U, Pt.locs, Pt.cells, Pt.slots] at X' e1 e2 h1 h2 h3 st hcl
    subst h1; subst h2; subst h3
    exact Or.inr ⟨q, (T.setVm vm₁).calling g' mk (Value.ref b :: As).toArray, t, U', L, E, ce, hT, X', hL, e1, e2, hq, hce, hcv, vx_cls hW₁ hcl, st⟩
theorem vx_runS (S : CallFix p m c cc nL s args Ts own) (hM : vx_Met l y ws rm Pc Qc XC mc ms free) (cw : CallB R s args own index y bytes maxL ret ws rm mc ms n ∧ (Cond.static y).before args s = true) (hp : PreS s H Pc As)
    (hg : g.method = m) (hn : As.length = n) (hsize : g.locals.size = nL) (hstack : g.stack = As.reverse ++ rest) (hW : 2 * g.monitorRoom + (rest.map fun v => v.category).sum ≤ 8) (hdg : decode cc g.pc = .ok (.invokestatic index, 3)) (hf : cells + mc ≤ R.cells ∧ slots + ms ≤ R.slots) :
    vx_Run p l e R s m args below meth c H locs cells slots mc ms g rest (Qc As.toArray) XC free := by
  have hK : vx_Back l R p e below s args y 3 8 (PreOf R mc ms Pc) (PostOf Qc mc ms free) (vx_Post XC mc ms free) := vx_callBack cw.1 hM hp.1
  obtain ⟨⟨-, -, -, -, -, -, hcode, hini, hy, hlen, hl⟩, hstt⟩ := cw
  obtain ⟨hx, hb, hml, ho, -⟩ := S
  intro T hT X
  rcases vx_callS X hx (bytes := bytes) (maxL := maxL) (ret := ret) ho hl hstt hini hcode hy hK hg (hsize.trans hml.symm) (argsL := As) (rest := rest) (fun sig h => hn.trans (hlen sig h)) hstack hW (by rw [hb]; exact hdg)
    (fun vm₁ hW₁ => ⟨hf.1, hf.2, hp.2 (T.setVm vm₁) hT hW₁⟩) with ⟨v, vm₁, ⟨U', l2, c2, s2⟩, hW₁, X', ⟨g', mk, t, L, e1, e2, hq, h1, hL, h2, h3⟩, st⟩ | ⟨q, vm₁, ⟨U', l2, c2, s2⟩, hW₁, X', ⟨g', mk, t, L, E, ce, e1, e2, hq, hce, hcv, hcl, h1, hL, h2, h3⟩, st⟩
  · dsimp only [Pt.U, Pt.locs, Pt.cells, Pt.slots] at X' e1 e2 h1 h2 h3 st
    subst h1; subst h2; subst h3
    exact Or.inl ⟨v, (T.setVm vm₁).calling g' mk As.toArray, t, U', L, hT, X', hL, e1, e2, hq, st⟩
  · dsimp only [Pt.U, Pt.locs, Pt.cells, Pt.slots] at X' e1 e2 h1 h2 h3 st hcl
    subst h1; subst h2; subst h3
    exact Or.inr ⟨q, (T.setVm vm₁).calling g' mk As.toArray, t, U', L, E, ce, hT, X', hL, e1, e2, hq, hce, hcv, vx_cls hW₁ hcl, st⟩
end Runs
section Rows
variable {p : Program} {l : Launch} {e : Env} {R : Room} {s : State} {m : MethodId} {args : Array Value} {below : List Frame} {meth : Method} {c : Code} {H : Heap} {locs : List Loc} {cells slots : Nat} {Q : State → Prop}
variable {mc ms : Nat} {free : Addr → Prop} {A0 A1 : Nat → Prop} {H0 : Heap} {a : Array Value} {pc : Nat} {ls : Array Slot} {st0 rest : List Value}
theorem vx_keep {st₀ t T' : State} {L : List Loc} (h0 : st₀.heap = H) (e1 : T'.heap = t.heap) (hS : va_S A0 H0 H locs) (hA : ∀ q, q < H.size → A1 q → A0 q) (hf : ∀ q, free q → A0 q) (hL : ∀ q ∈ L, free q.base) (hF : va_F A1 st₀ t) :
    H.size ≤ T'.heap.size ∧ (∀ q : Nat, q < H.size → ¬ A1 q → T'.heap[q]? = H[q]?) ∧ va_S A0 H0 T'.heap (locs ++ L) := by
  obtain ⟨hz, hk⟩ := hF
  rw [h0] at hz hk
  exact ⟨by rw [e1]; exact hz, fun q h1 h2 => by rw [e1]; exact hk q h1 h2,
    ⟨Nat.le_trans hS.1 (by rw [e1]; exact hz), fun q h1 h2 => by rw [e1, hk q (Nat.lt_of_lt_of_le h1 hS.1) (fun z => h2 (hA q (Nat.lt_of_lt_of_le h1 hS.1) z))]; exact hS.2.1 q h1 h2, fun q hq => by
      rcases List.mem_append.mp hq with h | h
      · exact hS.2.2 q h
      · exact hf _ (hL q h)⟩⟩
theorem vx_calli {S SX : Type} {post : Int32 → S → Prop} {px : SX → Prop} {B : S → State → Prop} {BX : String → SX → State → Prop} {AX : Nat → Prop} (hr : vx_Run p l e R s m args below meth c H locs cells slots mc ms (F0 m pc ls st0) rest (va_Qi post B A1 a) (vx_X px BX AX) free) (hS : va_S A0 H0 H locs) (hA : ∀ q, q < H.size → A1 q → A0 q) (hf : ∀ q, free q → A0 q) (hAX : ∀ q, q < H.size → AX q → A0 q)
    (kx : ∀ (E : String) (ce : Cell) (q9 : Addr) (u : SX) (t : State) (H1 : Heap) (locs1 : List Loc), t.heap = H1 → s.vm.Alike t.vm → px u → BX E u t → H.size ≤ H1.size → (∀ q : Nat, q < H.size → ¬ AX q → H1[q]? = H[q]?) → va_S A0 H0 H1 locs1 → H1[q9]? = some ce → ce.vm = .none → s.vm.findClass E = some ce.cls → vx_W p l e R s m args below meth c H1 locs1 (cells + mc) (slots + ms) Q (F0 m pc ls rest) q9)
    (kk : ∀ (r : Int32) (u : S) (t : State) (H1 : Heap) (locs1 : List Loc), t.heap = H1 → s.vm.Alike t.vm → post r u → B u t → H.size ≤ H1.size → (∀ q : Nat, q < H.size → ¬ A1 q → H1[q]? = H[q]?) → va_S A0 H0 H1 locs1 → W p l e R s m args below meth c H1 locs1 (cells + mc) (slots + ms) Q (F0 m (pc + 3) ls (.int r :: rest))) : W p l e R s m args below meth c H locs cells slots Q (F0 m pc ls st0) := by
  intro T hT X
  rcases hr T hT X with ⟨v, st₀, t, T', L, h0, X', hL, e1, e2, ⟨⟨r, u, hv, hp, hb⟩, hF⟩, st⟩ | ⟨q, st₀, t, T', L, E, ce, h0, X', hL, e1, e2, ⟨u, hp, hb, hF⟩, hce, hcv, hcl, st⟩
  · cases hv
    obtain ⟨k1, k2, k3⟩ := vx_keep h0 e1 hS hA hf hL hF
    obtain ⟨t2, a1, b1⟩ := kk r u t T'.heap (locs ++ L) e1.symm (by rw [← e2]; exact X'.warmed.alike) hp hb k1 k2 k3 T' rfl X'
    exact ⟨t2, st t2 a1, b1⟩
  · obtain ⟨k1, k2, k3⟩ := vx_keep h0 e1 hS hAX hf hL hF
    obtain ⟨t2, a1, b1⟩ := kx E ce q u t T'.heap (locs ++ L) e1.symm (by rw [← e2]; exact X'.warmed.alike) hp hb k1 k2 k3 (by rw [e1]; exact hce) hcv hcl T' rfl X'
    exact ⟨t2, st.trans a1, b1⟩
theorem vx_calll {S SX : Type} {post : Int64 → S → Prop} {px : SX → Prop} {B : S → State → Prop} {BX : String → SX → State → Prop} {AX : Nat → Prop} (hr : vx_Run p l e R s m args below meth c H locs cells slots mc ms (F0 m pc ls st0) rest (va_Ql post B A1 a) (vx_X px BX AX) free) (hS : va_S A0 H0 H locs) (hA : ∀ q, q < H.size → A1 q → A0 q) (hf : ∀ q, free q → A0 q) (hAX : ∀ q, q < H.size → AX q → A0 q)
    (kx : ∀ (E : String) (ce : Cell) (q9 : Addr) (u : SX) (t : State) (H1 : Heap) (locs1 : List Loc), t.heap = H1 → s.vm.Alike t.vm → px u → BX E u t → H.size ≤ H1.size → (∀ q : Nat, q < H.size → ¬ AX q → H1[q]? = H[q]?) → va_S A0 H0 H1 locs1 → H1[q9]? = some ce → ce.vm = .none → s.vm.findClass E = some ce.cls → vx_W p l e R s m args below meth c H1 locs1 (cells + mc) (slots + ms) Q (F0 m pc ls rest) q9)
    (kk : ∀ (r : Int64) (u : S) (t : State) (H1 : Heap) (locs1 : List Loc), t.heap = H1 → s.vm.Alike t.vm → post r u → B u t → H.size ≤ H1.size → (∀ q : Nat, q < H.size → ¬ A1 q → H1[q]? = H[q]?) → va_S A0 H0 H1 locs1 → W p l e R s m args below meth c H1 locs1 (cells + mc) (slots + ms) Q (F0 m (pc + 3) ls (.long r :: rest))) : W p l e R s m args below meth c H locs cells slots Q (F0 m pc ls st0) := by
  intro T hT X
  rcases hr T hT X with ⟨v, st₀, t, T', L, h0, X', hL, e1, e2, ⟨⟨r, u, hv, hp, hb⟩, hF⟩, st⟩ | ⟨q, st₀, t, T', L, E, ce, h0, X', hL, e1, e2, ⟨u, hp, hb, hF⟩, hce, hcv, hcl, st⟩
  · cases hv
    obtain ⟨k1, k2, k3⟩ := vx_keep h0 e1 hS hA hf hL hF
    obtain ⟨t2, a1, b1⟩ := kk r u t T'.heap (locs ++ L) e1.symm (by rw [← e2]; exact X'.warmed.alike) hp hb k1 k2 k3 T' rfl X'
    exact ⟨t2, st t2 a1, b1⟩
  · obtain ⟨k1, k2, k3⟩ := vx_keep h0 e1 hS hAX hf hL hF
    obtain ⟨t2, a1, b1⟩ := kx E ce q u t T'.heap (locs ++ L) e1.symm (by rw [← e2]; exact X'.warmed.alike) hp hb k1 k2 k3 (by rw [e1]; exact hce) hcv hcl T' rfl X'
    exact ⟨t2, st.trans a1, b1⟩
theorem vx_callf {S SX : Type} {post : UInt32 → S → Prop} {px : SX → Prop} {B : S → State → Prop} {BX : String → SX → State → Prop} {AX : Nat → Prop} (hr : vx_Run p l e R s m args below meth c H locs cells slots mc ms (F0 m pc ls st0) rest (va_Qf post B A1 a) (vx_X px BX AX) free) (hS : va_S A0 H0 H locs) (hA : ∀ q, q < H.size → A1 q → A0 q) (hf : ∀ q, free q → A0 q) (hAX : ∀ q, q < H.size → AX q → A0 q)
    (kx : ∀ (E : String) (ce : Cell) (q9 : Addr) (u : SX) (t : State) (H1 : Heap) (locs1 : List Loc), t.heap = H1 → s.vm.Alike t.vm → px u → BX E u t → H.size ≤ H1.size → (∀ q : Nat, q < H.size → ¬ AX q → H1[q]? = H[q]?) → va_S A0 H0 H1 locs1 → H1[q9]? = some ce → ce.vm = .none → s.vm.findClass E = some ce.cls → vx_W p l e R s m args below meth c H1 locs1 (cells + mc) (slots + ms) Q (F0 m pc ls rest) q9)
    (kk : ∀ (r : UInt32) (u : S) (t : State) (H1 : Heap) (locs1 : List Loc), t.heap = H1 → s.vm.Alike t.vm → post r u → B u t → H.size ≤ H1.size → (∀ q : Nat, q < H.size → ¬ A1 q → H1[q]? = H[q]?) → va_S A0 H0 H1 locs1 → W p l e R s m args below meth c H1 locs1 (cells + mc) (slots + ms) Q (F0 m (pc + 3) ls (.float r :: rest))) : W p l e R s m args below meth c H locs cells slots Q (F0 m pc ls st0) := by
  intro T hT X
  rcases hr T hT X with ⟨v, st₀, t, T', L, h0, X', hL, e1, e2, ⟨⟨r, u, hv, hp, hb⟩, hF⟩, st⟩ | ⟨q, st₀, t, T', L, E, ce, h0, X', hL, e1, e2, ⟨u, hp, hb, hF⟩, hce, hcv, hcl, st⟩
  · cases hv
    obtain ⟨k1, k2, k3⟩ := vx_keep h0 e1 hS hA hf hL hF
    obtain ⟨t2, a1, b1⟩ := kk r u t T'.heap (locs ++ L) e1.symm (by rw [← e2]; exact X'.warmed.alike) hp hb k1 k2 k3 T' rfl X'
    exact ⟨t2, st t2 a1, b1⟩
  · obtain ⟨k1, k2, k3⟩ := vx_keep h0 e1 hS hAX hf hL hF
    obtain ⟨t2, a1, b1⟩ := kx E ce q u t T'.heap (locs ++ L) e1.symm (by rw [← e2]; exact X'.warmed.alike) hp hb k1 k2 k3 (by rw [e1]; exact hce) hcv hcl T' rfl X'
    exact ⟨t2, st.trans a1, b1⟩
theorem vx_calld {S SX : Type} {post : UInt64 → S → Prop} {px : SX → Prop} {B : S → State → Prop} {BX : String → SX → State → Prop} {AX : Nat → Prop} (hr : vx_Run p l e R s m args below meth c H locs cells slots mc ms (F0 m pc ls st0) rest (va_Qd post B A1 a) (vx_X px BX AX) free) (hS : va_S A0 H0 H locs) (hA : ∀ q, q < H.size → A1 q → A0 q) (hf : ∀ q, free q → A0 q) (hAX : ∀ q, q < H.size → AX q → A0 q)
    (kx : ∀ (E : String) (ce : Cell) (q9 : Addr) (u : SX) (t : State) (H1 : Heap) (locs1 : List Loc), t.heap = H1 → s.vm.Alike t.vm → px u → BX E u t → H.size ≤ H1.size → (∀ q : Nat, q < H.size → ¬ AX q → H1[q]? = H[q]?) → va_S A0 H0 H1 locs1 → H1[q9]? = some ce → ce.vm = .none → s.vm.findClass E = some ce.cls → vx_W p l e R s m args below meth c H1 locs1 (cells + mc) (slots + ms) Q (F0 m pc ls rest) q9)
    (kk : ∀ (r : UInt64) (u : S) (t : State) (H1 : Heap) (locs1 : List Loc), t.heap = H1 → s.vm.Alike t.vm → post r u → B u t → H.size ≤ H1.size → (∀ q : Nat, q < H.size → ¬ A1 q → H1[q]? = H[q]?) → va_S A0 H0 H1 locs1 → W p l e R s m args below meth c H1 locs1 (cells + mc) (slots + ms) Q (F0 m (pc + 3) ls (.double r :: rest))) : W p l e R s m args below meth c H locs cells slots Q (F0 m pc ls st0) := by
  intro T hT X
  rcases hr T hT X with ⟨v, st₀, t, T', L, h0, X', hL, e1, e2, ⟨⟨r, u, hv, hp, hb⟩, hF⟩, st⟩ | ⟨q, st₀, t, T', L, E, ce, h0, X', hL, e1, e2, ⟨u, hp, hb, hF⟩, hce, hcv, hcl, st⟩
  · cases hv
    obtain ⟨k1, k2, k3⟩ := vx_keep h0 e1 hS hA hf hL hF
    obtain ⟨t2, a1, b1⟩ := kk r u t T'.heap (locs ++ L) e1.symm (by rw [← e2]; exact X'.warmed.alike) hp hb k1 k2 k3 T' rfl X'
    exact ⟨t2, st t2 a1, b1⟩
  · obtain ⟨k1, k2, k3⟩ := vx_keep h0 e1 hS hAX hf hL hF
    obtain ⟨t2, a1, b1⟩ := kx E ce q u t T'.heap (locs ++ L) e1.symm (by rw [← e2]; exact X'.warmed.alike) hp hb k1 k2 k3 (by rw [e1]; exact hce) hcv hcl T' rfl X'
    exact ⟨t2, st.trans a1, b1⟩
theorem vx_callv {S SX : Type} {post : S → Prop} {px : SX → Prop} {B : S → State → Prop} {BX : String → SX → State → Prop} {AX : Nat → Prop} (hr : vx_Run p l e R s m args below meth c H locs cells slots mc ms (F0 m pc ls st0) rest (va_Qv post B A1 a) (vx_X px BX AX) free) (hS : va_S A0 H0 H locs) (hA : ∀ q, q < H.size → A1 q → A0 q) (hf : ∀ q, free q → A0 q) (hAX : ∀ q, q < H.size → AX q → A0 q)
    (kx : ∀ (E : String) (ce : Cell) (q9 : Addr) (u : SX) (t : State) (H1 : Heap) (locs1 : List Loc), t.heap = H1 → s.vm.Alike t.vm → px u → BX E u t → H.size ≤ H1.size → (∀ q : Nat, q < H.size → ¬ AX q → H1[q]? = H[q]?) → va_S A0 H0 H1 locs1 → H1[q9]? = some ce → ce.vm = .none → s.vm.findClass E = some ce.cls → vx_W p l e R s m args below meth c H1 locs1 (cells + mc) (slots + ms) Q (F0 m pc ls rest) q9)
    (kk : ∀ (u : S) (t : State) (H1 : Heap) (locs1 : List Loc), t.heap = H1 → s.vm.Alike t.vm → post u → B u t → H.size ≤ H1.size → (∀ q : Nat, q < H.size → ¬ A1 q → H1[q]? = H[q]?) → va_S A0 H0 H1 locs1 → W p l e R s m args below meth c H1 locs1 (cells + mc) (slots + ms) Q (F0 m (pc + 3) ls (rest))) : W p l e R s m args below meth c H locs cells slots Q (F0 m pc ls st0) := by
  intro T hT X
  rcases hr T hT X with ⟨v, st₀, t, T', L, h0, X', hL, e1, e2, ⟨⟨u, hv, hp, hb⟩, hF⟩, st⟩ | ⟨q, st₀, t, T', L, E, ce, h0, X', hL, e1, e2, ⟨u, hp, hb, hF⟩, hce, hcv, hcl, st⟩
  · cases hv
    obtain ⟨k1, k2, k3⟩ := vx_keep h0 e1 hS hA hf hL hF
    obtain ⟨t2, a1, b1⟩ := kk u t T'.heap (locs ++ L) e1.symm (by rw [← e2]; exact X'.warmed.alike) hp hb k1 k2 k3 T' rfl X'
    exact ⟨t2, st t2 a1, b1⟩
  · obtain ⟨k1, k2, k3⟩ := vx_keep h0 e1 hS hAX hf hL hF
    obtain ⟨t2, a1, b1⟩ := kx E ce q u t T'.heap (locs ++ L) e1.symm (by rw [← e2]; exact X'.warmed.alike) hp hb k1 k2 k3 (by rw [e1]; exact hce) hcv hcl T' rfl X'
    exact ⟨t2, st.trans a1, b1⟩

theorem vx_catch {own name : String} {E : String} {ce : Cell} {q : Addr} (hown : s.vm.findClass own = some m.cls) (pre : List ExceptionTableEntry) (x : ExceptionTableEntry) (suf : List ExceptionTableEntry) (hsplit : c.exceptionTable.toList = pre ++ x :: suf)
    (hpass : ∀ z ∈ pre, covers z pc = false ∨ (z.catchType ≠ 0 ∧ ∃ nm : String, (Cond.classLink own z.catchType nm).before args s = true ∧ va_Nc E nm s)) (hx : covers x pc = true) (h0 : x.catchType ≠ 0)
    (hlink : (Cond.classLink own x.catchType name).before args s = true) (hcast : (Cond.castable E name).before args s = true) (hcell : H[q]? = some ce) (hv : ce.vm = .none) (hcl : s.vm.findClass E = some ce.cls)
    (kk : W p l e R s m args below meth c H locs cells slots Q (F0 m x.handlerPc ls [.ref q])) : vx_W p l e R s m args below meth c H locs cells slots Q (F0 m pc ls rest) q := by
  intro T hT X
  have hpl : e.platform.magicAccessors = ({} : Platform).magicAccessors := by rw [X.admits.platform]
  obtain ⟨c3, c4, hc3, hc4, hasg⟩ := Cond.castable_spec hcast
  cases Option.some.inj (hc3.symm.trans hcl)
  obtain ⟨c5, hc5, hcl5⟩ := Cond.classLink_spec hown hlink e.platform hpl
  cases Option.some.inj (hc4.symm.trans hc5)
  obtain ⟨vm', X', st⟩ := X.thenCaughtThrough q (g := F0 m pc ls rest) rfl (Steps.refl _) (by rw [hT]; exact hcell) (by rw [hv]; rfl) (by obtain ⟨k9, h9, -⟩ := Vm.findClass_spec hcl; exact ⟨k9, h9⟩) pre x suf hsplit
    (fun z hz => by
      rcases hpass z hz with h | ⟨hz0, nm, hl1, hn1⟩
      · exact Or.inl h
      · obtain ⟨c6, hc6, hcl6⟩ := Cond.classLink_spec hown hl1 e.platform hpl
        obtain ⟨a8, b8, h1, h2, h3⟩ := hn1
        cases Option.some.inj (h1.symm.trans hcl)
        cases Option.some.inj (h2.symm.trans hc6)
        exact Or.inr ⟨hz0, _, hcl6, h3⟩) hx (Or.inr ⟨h0, c4, hcl5, hasg⟩)
  obtain ⟨t, a1, b1⟩ := kk (T.setVm vm') hT X'
  exact ⟨t, st.trans a1, b1⟩
end Rows
section Ends
variable {p : Program} {l : Launch} {e : Env} {R : Room} {s : State} {m : MethodId} {args : Array Value} {below : List Frame} {meth : Method} {c : Code} {H : Heap} {locs : List Loc} {cells slots : Nat} {Q : State → Prop}
variable {mc ms : Nat} {free : Addr → Prop} {A0 A1 : Nat → Prop} {H0 : Heap} {a : Array Value} {ls : Array Slot} {st0 rest : List Value}
variable {Qc : Array Value → State → Outcome → State → Prop} {XC : String → State → State → Prop}

def vx_MQ (below : List Frame) (Qc : Array Value → State → Outcome → State → Prop) (XC : String → State → State → Prop) (a : Array Value) (s : State) (mc ms : Nat) (free : Addr → Prop) : State → Prop := fun t =>
  ∃ o, t.status = .running ∧ Ended t below o ∧ vx_Q Qc XC mc ms free a s o t
theorem vx_ret {g : JFrame} {mc ms : Nat} (k : W p l e R s m args below meth c H locs cells slots (MQ below Qc args s mc ms free) g) : W p l e R s m args below meth c H locs cells slots (vx_MQ below Qc XC args s mc ms free) g := by
  intro T hT X
  obtain ⟨t, a1, o, b1, b2, b3, b4⟩ := k T hT X
  exact ⟨t, a1, o, b1, b2, Or.inl ⟨b3, b4⟩⟩

theorem vx_widen {g : JFrame} {q : Addr} {k n : Nat} (h1 : cells ≤ k) (h2 : slots ≤ n) (kk : vx_W p l e R s m args below meth c H locs k n Q g q) : vx_W p l e R s m args below meth c H locs cells slots Q g q := fun T hT X => kk T hT (stand_widen X h1 h2)
theorem vx_out {pc : Nat} {E : String} {ce : Cell} {q : Addr} {mc ms : Nat} (hout : ∀ x ∈ c.exceptionTable.toList, covers x pc = false) (hlocks : meth.locks = false) (hcell : H[q]? = some ce) (hv : ce.vm = .none) (hcl : s.vm.findClass E = some ce.cls)
    (hx : ∀ t : State, t.heap = H → s.vm.Alike t.vm → XC E s t) (hf : ∀ z ∈ locs, free z.base) (hc : cells ≤ mc) (hs : slots ≤ ms) :
    vx_W p l e R s m args below meth c H locs cells slots (vx_MQ below Qc XC args s mc ms free) (F0 m pc ls rest) q := by
  intro T hT X
  obtain ⟨st1, hrun, hend, hW, hsm⟩ := X.leaveThrown q (g := F0 m pc ls rest) rfl rfl rfl hout hlocks
  have hcell9 : (T.setFrames (.throwing q :: below)).heap[q]? = some ce := by
    show T.heap[q]? = some ce
    rw [hT]; exact hcell
  exact ⟨_, st1, .threw q, hrun, hend, Or.inr ⟨q, rfl, E, ce, locs, hx _ hT hW.alike, hcell9, hv, hcl, hW, hsm.mono hc hs, hf⟩⟩
theorem vx_frame {U : State} {k n : Nat} (h : s.sameButNew ({ U with vm := s.vm } : State) locs k n) : s.heap.size ≤ U.heap.size ∧ ∀ q : Nat, q < s.heap.size → (∀ z ∈ locs, z.base ≠ q) → U.heap[q]? = s.heap[q]? := by
  obtain ⟨-, h2, -, -, -, h6⟩ := h
  refine ⟨h2, fun q hq hz => ?_⟩
  obtain ⟨c9, e1, e2, e3, e4⟩ := h6 q _ (Array.getElem?_eq_getElem hq)
  have hs : c9.slots = (s.heap[q]).slots := Array.ext_getElem? fun i => e4 i fun hm => hz _ hm rfl
  have h9 : c9 = s.heap[q] := by
    rw [hs] at e2
    exact e2
  have e5 : U.heap[q]? = some c9 := e1
  rw [e5, h9, Array.getElem?_eq_getElem hq]

def vx_no (w : Cond) : Bool := decide (w ≠ .isRef (.static Bundle.tN "UNASSIGNED_STACK" Bundle.steD)) && decide (w ≠ .isRef (.static Bundle.tN "SUPPRESSED_SENTINEL" Bundle.listD)) && decide (w ≠ .laysStatic Bundle.tN "UNASSIGNED_STACK" Bundle.steD) && decide (w ≠ .laysStatic Bundle.tN "SUPPRESSED_SENTINEL" Bundle.listD)
def vx_at0 (own : String) (ic : Nat) (X : String) (names : List String) : List Cond := (Bundle.ownAtoms0 own ic X names).filter vx_no
def vx_atS (own : String) (ic : Nat) (X : String) (names : List String) : List Cond := (Bundle.ownAtoms own ic X names).filter vx_no

def vx_ot (w : Cond) : Bool := w.onTables || goodWord w
theorem vx_ot_at {args a' : Array Value} {s U : State} {w : Cond} (hW : s.WarmedH U.vm) (hvm : s.vm = U.vm) (hg : vx_ot w = true) (h : w.before args s = true) : w.before a' U = true := by
  simp only [vx_ot, Bool.or_eq_true] at hg
  rcases hg with hg | hg
  · exact va_tabs hg hvm h
  · exact word_at hW (good_of_word hg) h

theorem vx_hat {args : Array Value} {s : State} {L B : List Cond} (h1 : ∀ w ∈ L.filter goodWord, w.before args s = true) (h2 : ∀ w ∈ L.filter (fun w => !goodWord w), w ∈ B) (h3 : ∀ w ∈ B, w.before args s = true) : ∀ w ∈ L, w.before args s = true := by
  intro w hw
  by_cases g : goodWord w = true
  · exact h1 w (List.mem_filter.mpr ⟨hw, g⟩)
  · refine h3 w (h2 w (List.mem_filter.mpr ⟨hw, ?_⟩))
    show (!goodWord w) = true
    cases hgw : goodWord w
    · rfl
    · exact absurd hgw g
theorem vx_c {args : Array Value} {s : State} {w : Cond} {B : List Cond} (h : w.before args s = true) (t : ∀ w ∈ B, w.before args s = true) : ∀ w' ∈ w :: B, w'.before args s = true := fun w' h' => (List.mem_cons.mp h').elim (fun e => by rw [e]; exact h) (t w')
theorem vx_n {args : Array Value} {s : State} : ∀ w ∈ ([] : List Cond), w.before args s = true := fun _ h => nomatch h
theorem vx_own {args : Array Value} {s : State} {L : List Cond} (h1 : ∀ w ∈ L.filter vx_no, w.before args s = true)
    (hU : (Cond.isRef (.static Bundle.tN "UNASSIGNED_STACK" Bundle.steD)).before args s = true) (hN : (Cond.isRef (.static Bundle.tN "SUPPRESSED_SENTINEL" Bundle.listD)).before args s = true)
    (lU : (Cond.laysStatic Bundle.tN "UNASSIGNED_STACK" Bundle.steD).before args s = true) (lN : (Cond.laysStatic Bundle.tN "SUPPRESSED_SENTINEL" Bundle.listD).before args s = true) : ∀ w ∈ L, w.before args s = true := by
  intro w hw
  by_cases e1 : w = .isRef (.static Bundle.tN "UNASSIGNED_STACK" Bundle.steD)
  · rw [e1]; exact hU
  · by_cases e2 : w = .isRef (.static Bundle.tN "SUPPRESSED_SENTINEL" Bundle.listD)
    · rw [e2]; exact hN
    · by_cases e3 : w = .laysStatic Bundle.tN "UNASSIGNED_STACK" Bundle.steD
      · rw [e3]; exact lU
      · by_cases e4 : w = .laysStatic Bundle.tN "SUPPRESSED_SENTINEL" Bundle.listD
        · rw [e4]; exact lN
        · exact h1 w (List.mem_filter.mpr ⟨hw, by unfold vx_no; rw [decide_eq_true e1, decide_eq_true e2, decide_eq_true e3, decide_eq_true e4]; rfl⟩)

def vx_L (C n d : String) (A : Nat → Prop) (U : State) (H : Heap) : Prop := ∃ (c : ClassId) (k : Class) (i : Nat) (f : Field) (a : Nat) (cell : Cell), U.vm.findClass C = some c ∧ U.fieldFound? C n d = some (c, k, i, f) ∧ f.isStatic = true ∧ k.statics = some a ∧ H[a]? = some cell ∧ cell.vm.isStatics = true ∧ cell.cls = c ∧ f.slot < cell.slots.size ∧ k.staticTypes[f.slot]? = some f.type ∧ ¬ A a
theorem vx_L.moved {C n d : String} {A : Nat → Prop} {u U : State} {H : Heap} (hvm : u.vm.Alike U.vm) (h : vx_L C n d A u H) : vx_L C n d A U H := by
  obtain ⟨c, k, i, f, a, cell, h1, h2, h3, h4, h5, h6, h7, h8, h9, h10⟩ := h
  obtain ⟨k', hi', he⟩ := State.fieldFound?_setVm hvm h2
  exact ⟨c, k', i, f, a, cell, by rw [hvm.findClass]; exact h1, hi', h3, by rw [he]; exact h4, h5, h6, h7, h8, by rw [he]; exact h9, h10⟩
theorem vx_L.kept {C n d : String} {A : Nat → Prop} {U : State} {H H1 : Heap} (h : vx_L C n d A U H) (hq : ∀ a : Nat, a < H.size → ¬ A a → H1[a]? = H[a]?) : vx_L C n d A U H1 := by
  obtain ⟨c, k, i, f, a, cell, h1, h2, h3, h4, h5, h6, h7, h8, h9, h10⟩ := h
  exact ⟨c, k, i, f, a, cell, h1, h2, h3, h4, by rw [hq a (Array.getElem?_eq_some_iff.mp h5).1 h10]; exact h5, h6, h7, h8, h9, h10⟩
theorem vx_L.narrow {C n d : String} {A B : Nat → Prop} {U : State} {H : Heap} (h : vx_L C n d A U H) (hAB : ∀ q, B q → A q) : vx_L C n d B U H := by
  obtain ⟨c, k, i, f, a, cell, h1, h2, h3, h4, h5, h6, h7, h8, h9, h10⟩ := h
  exact ⟨c, k, i, f, a, cell, h1, h2, h3, h4, h5, h6, h7, h8, h9, fun z => h10 (hAB _ z)⟩
theorem vx_L.word {C n d : String} {A : Nat → Prop} {s : State} {args : Array Value} (h : vx_L C n d A s s.heap) : (Cond.laysStatic C n d).before args s = true := by
  obtain ⟨c, k, i, f, a, cell, h1, h2, h3, h4, h5, h6, h7, h8, h9, -⟩ := h
  show (Cond.laysStatic C n d).holds args s none s [] = true
  exact Cond.laysStatic_of h1 h2 h3 h4 h5 h6 h7 h8 h9

def vx_Zq (C n d : String) (A : Nat → Prop) (U : State) (H : Heap) : Prop := va_Zq C n d A U H ∧ vx_L C n d A U H
theorem vx_Zq.moved {C n d : String} {A : Nat → Prop} {u U : State} {H : Heap} (hvm : u.vm.Alike U.vm) (h : vx_Zq C n d A u H) : vx_Zq C n d A U H := ⟨va_Zq.moved hvm h.1, vx_L.moved hvm h.2⟩
theorem vx_Zq.kept {C n d : String} {A : Nat → Prop} {U : State} {H H1 : Heap} (h : vx_Zq C n d A U H) (hq : ∀ a : Nat, a < H.size → ¬ A a → H1[a]? = H[a]?) : vx_Zq C n d A U H1 := ⟨va_Zq.kept h.1 hq, vx_L.kept h.2 hq⟩
theorem vx_Zq.narrow {C n d : String} {A B : Nat → Prop} {U : State} {H : Heap} (h : vx_Zq C n d A U H) (hAB : ∀ q, B q → A q) : vx_Zq C n d B U H := ⟨va_Zq.narrow h.1 hAB, vx_L.narrow h.2 hAB⟩
theorem vx_Zqof {args : Array Value} {s : State} {C n d : String} {A : Nat → Prop} (hl : (Cond.laysStatic C n d).before args s = true) (hini : (Cond.initialized C).before args s = true) (h : (Cond.isRef (.static C n d)).before args s = true) (hA : ∀ a : Nat, a < s.heap.size → ¬ A a) : vx_Zq C n d A s s.heap := by
  refine ⟨va_Zqof hl hini h hA, ?_⟩
  obtain ⟨c, k, i, f, a, cell, h1, h2, h3, h4, h5, h6, h7, h8, h9⟩ := Cond.laysStatic_spec hl
  exact ⟨c, k, i, f, a, cell, h1, h2, h3, h4, h5, h6, h7, h8, h9, hA a (Array.getElem?_eq_some_iff.mp h5).1⟩
theorem vx_isRef {C n d : String} {v : Value} {A : Nat → Prop} {s : State} {args : Array Value} (h : va_Z C n d v A s s.heap) (hv : v.isRef = true) : (Cond.isRef (.static C n d)).before args s = true := by
  obtain ⟨cf, kf, fi, f, a, cell, h1, h2, h3, h4, h5, h6, h7, -⟩ := h
  have he : (Term.static C n d).eval args s none [] s = some v := by
    simp [Term.eval, State.fieldNamed?, h1, h2, h4, h5, h6, h7]
  simp only [Cond.before, Cond.holds, Cond.value, he]
  cases v <;> simp_all [Value.isRef]
theorem vx_isRefq {C n d : String} {A : Nat → Prop} {s : State} {args : Array Value} (h : va_Zq C n d A s s.heap) : (Cond.isRef (.static C n d)).before args s = true := by
  rcases h with h | ⟨t, h⟩
  · exact vx_isRef h rfl
  · exact vx_isRef h rfl

theorem vx_rebase {T : State} (X : Stand p l e R s m args below meth c T locs cells slots) {R' : Room} (hf : R'.frames ≤ R.frames) (hl : R'.locals ≤ R.locals) (hc : cells + R'.cells ≤ R.cells) (hs : slots + R'.slots ≤ R.slots) :
    Stand p l e R' ((T.setVm s.vm).setFrames (.invoking m args :: below)) m args below meth c T [] 0 0 := by
  have htop : (T.setVm s.vm).topJava?.isSome := X.here.top
  have hF : ((T.setVm s.vm).setFrames (.invoking m args :: below)).frames = .invoking m args :: below := State.frames_setFrames _ (State.cur_lt_of_top htop)
  obtain ⟨g₀, hg0⟩ := Option.isSome_iff_exists.mp htop
  obtain ⟨r, hr⟩ := State.topJava?_eq_some.mp hg0
  have hl9 : e.platform.stackLimits (T.setVm s.vm).me = e.platform.stackLimits s.me := X.limits
  have hb9 : (T.setVm s.vm).me.stackBytes = s.me.stackBytes := X.bytes
  refine ⟨X.admits, X.cas, X.clock, hF, ?_, X.hears, X.method, X.code, X.here, X.tail, X.warmed, ?_, ?_, ?_⟩
  · have h := X.room
    have hU : ((T.setVm s.vm).setFrames (.invoking m args :: below)).localsInUse = s.localsInUse := by
      rw [State.localsInUse_invoking hF (meth := meth) (c := c) X.method X.code, State.localsInUse_invoking X.frames X.method X.code]
    simp only [State.hasRoom, Bool.and_eq_true, decide_eq_true_eq] at h ⊢
    obtain ⟨⟨⟨⟨h1, h2, h3, h4, h5, h6⟩, h7⟩, h8⟩, h9⟩ := h
    rw [X.frames, List.length_cons] at h2 h3
    have q1 := X.heapSize
    have q2 := X.used
    simp only [hF, hU, List.length_cons, State.stackLimits_setFrames, State.stackBytes_setFrames, hl9, hb9]
    refine ⟨⟨⟨⟨by omega, by omega, by omega, by omega, by omega, h6⟩, ?_⟩, ?_⟩, X.book⟩
    · show T.heap.size + R'.cells ≤ e.platform.maxCells
      omega
    · show T.slotsUsed + R'.slots ≤ e.platform.maxSlots
      omega
  · rw [State.stackLimits_setFrames]; rfl
  · rw [State.stackBytes_setFrames]; rfl
  · refine ⟨?_, Nat.le_refl _, Nat.le_refl _, ?_, ?_, fun a c9 h9 => ⟨c9, h9, rfl, rfl, fun _ _ => rfl⟩⟩
    · obtain ⟨t, ht, -⟩ := State.frames_cons hr
      show T.setVm s.vm = { ((T.setVm s.vm).setFrames (.invoking m args :: below)).setFrames (T.setVm s.vm).frames with heap := T.heap, slotsUsed := T.slotsUsed }
      rw [State.setFrames_setFrames, State.setFrames_self ht]
      rfl
    · show T.slotsUsed = T.slotsUsed + ((T.heap.toList.drop T.heap.size).map (·.slots.size)).sum
      rw [List.drop_eq_nil_of_le (Nat.le_of_eq Array.length_toList)]
      rfl
    · show ((T.heap.toList.drop T.heap.size).map (·.slots.size)).sum ≤ 0
      rw [List.drop_eq_nil_of_le (Nat.le_of_eq Array.length_toList)]
      exact Nat.le_refl _

theorem vx_throw0 {cc : ByteArray} {pc : Nat} (hexec : p.tables.exec = Jvm.exec) (hb : c.code = cc) (hl : l.stackTraces = false) {own cls : String} {names : List String} {ik ic mc ms : Nat} {A : Nat → Prop}
    (hown : s.vm.findClass own = some m.cls) (hcls : Bundle.fit cls = true) (hnames : ∀ n ∈ names, Bundle.fit n = true)
    (hk : (Cond.classLink own ik cls).before args s = true) (hini : (Cond.initialized cls).before args s = true) (hat : ∀ w ∈ vx_at0 own ic cls names, w.before args s = true)
    (hgood : ∀ w ∈ Cond.classLink own ik cls :: Cond.initialized cls :: vx_at0 own ic cls names, vx_ot w = true)
    (hU : vx_Zq Bundle.tN "UNASSIGNED_STACK" Bundle.steD A s s.heap) (hN : vx_Zq Bundle.tN "SUPPRESSED_SENTINEL" Bundle.listD A s s.heap) (hS : va_S A s.heap H locs) (hsize : ls.size = c.maxLocals)
    (d0 : decode cc pc = .ok (.new ik, 3)) (d3 : decode cc (pc + 3) = .ok (.dup, 1)) (d4 : decode cc (pc + 4) = .ok (.invokespecial ic, 3)) (d7 : decode cc (pc + 7) = .ok (.athrow, 1))
    (hout : ∀ x ∈ c.exceptionTable.toList, covers x (pc + 7) = false)
    (hRframes : names.length + 3 < R.frames) (hRlocals : (rest.map fun v => v.category).sum + (13 * (names.length + 1) + 42) ≤ R.locals) (hRcells : cells + 1 ≤ R.cells) (hRslots : slots + 6 ≤ R.slots) (hlocks : meth.locks = false)
    (hx : ∀ t : State, s.vm.Alike t.vm → H.size ≤ t.heap.size → (∀ q : Nat, q < H.size → t.heap[q]? = H[q]?) → XC cls s t)
    (hf : ∀ z ∈ locs, free z.base) (hc : cells + 1 ≤ mc) (hs : slots + 6 ≤ ms) :
    W p l e R s m args below meth c H locs cells slots (vx_MQ below Qc XC args s mc ms free) (F0 m pc ls rest) := by
  intro T hT X
  have htr : e.platform.stackTraces = false := (show e.platform.stackTraces = l.stackTraces by rw [X.admits.platform]).trans hl
  have Y := vx_rebase X (R' := { frames := R.frames, locals := R.locals, cells := 1, slots := 6 }) (Nat.le_refl _) (Nat.le_refl _) hRcells hRslots
  obtain ⟨s', hA⟩ : ∃ z, z = (T.setVm s.vm).setFrames (.invoking m args :: below) := ⟨_, rfl⟩
  rw [← hA] at Y
  have hvm : s'.vm = s.vm := by rw [hA]; rfl
  have hhp : s'.heap = H := by rw [hA]; exact hT
  have hW0 : s.WarmedH s'.vm := by rw [hvm]; exact State.WarmedH.refl s
  have hat' : ∀ w ∈ vx_at0 own ic cls names, w.before args s' = true := fun w hw => vx_ot_at hW0 hvm.symm (hgood w (List.mem_cons_of_mem _ (List.mem_cons_of_mem _ hw))) (hat w hw)
  have hk' : (Cond.classLink own ik cls).before args s' = true := vx_ot_at hW0 hvm.symm (hgood _ List.mem_cons_self) hk
  have hini' : (Cond.initialized cls).before args s' = true := vx_ot_at hW0 hvm.symm (hgood _ (List.mem_cons_of_mem _ List.mem_cons_self)) hini
  have hU' : vx_Zq Bundle.tN "UNASSIGNED_STACK" Bundle.steD A s' s'.heap := by rw [hhp]; exact vx_Zq.moved hW0.alike (hU.kept hS.2.1)
  have hN' : vx_Zq Bundle.tN "SUPPRESSED_SENTINEL" Bundle.listD A s' s'.heap := by rw [hhp]; exact vx_Zq.moved hW0.alike (hN.kept hS.2.1)
  have h : ∀ w ∈ Bundle.ownAtoms0 own ic cls names, w.before args s' = true := vx_own hat' (vx_isRefq hU'.1) (vx_isRefq hN'.1) hU'.2.word hN'.2.word
  have hown' : s'.vm.findClass own = some m.cls := by rw [hvm]; exact hown
  have hins : (Cond.instantiable cls 6).before args s' = true := h _ (by simp [Bundle.ownAtoms0])
  obtain ⟨vm₁, cX, kX, hfX, hkX, -, -, X₁, st1⟩ := Y.newCold hexec (own := own) (C := cls) (index := ik) (n := 6) hown' hk' hins hini'
    (g := F0 m pc ls rest) rfl (by rw [hb]; exact d0) (Nat.le_refl _) (Nat.le_refl _)
  generalize hT1 : (T.setVm vm₁).pushCell { cls := cX, slots := kX.instanceTypes.map defaultValue, vm := .none } = T1 at X₁ st1
  have hcat : (Value.ref T.heap.size).category = 1 := rfl
  have hcellA : T1.heap[T.heap.size]? = some (freshCell cX kX) := by rw [← hT1]; exact State.heap_pushCell_size _ _
  have d3' : decode c.code (pc + 3) = .ok (.dup, 1) := by rw [hb]; exact d3
  obtain ⟨U, hsteps, hrun, hend, hW, hsame, ce, hce, hO⟩ := X₁.ctorThrow0 hexec htr (own := own) (cls := cls) (names := names) (ic := ic) hown' hcls hnames h (fun x hx => nomatch hx) hfX hkX hcellA (by rw [hhp, hT]; exact Nat.le_refl _)
    (g := { method := m, pc := pc + 4, locals := ls, stack := .ref T.heap.size :: .ref T.heap.size :: rest, locked := none }) rfl hsize rfl rfl (rest := rest) rfl
    (by rw [hb]; exact d4) (by rw [hb]; exact d7) hout hRframes (by simp only [List.map_cons, List.sum_cons, hcat]; omega) hlocks
  obtain ⟨f1, f2⟩ := vx_frame hsame
  rw [hhp] at f1 f2
  have hWs : s.WarmedH U.vm := State.WarmedH.trans hW0 hW
  have hcl : s.vm.findClass cls = some ce.cls := by
    have h9 := hO.cls
    rw [hvm] at h9
    exact h9
  have hall : s.sameButNew ({ U with vm := s.vm } : State) locs mc ms := by
    subst hA
    obtain ⟨e1, e2⟩ := hsame
    rw [State.setFrames_setFrames] at e1
    have h2 : (T.setVm s.vm).sameButNew ({ U with vm := s.vm } : State) [] (0 + 1) (0 + 6) := ⟨e1, e2⟩
    have h3 := X.same.trans h2
    rw [List.append_nil] at h3
    exact h3.mono hc hs
  refine ⟨U, ?_, .threw T.heap.size, hrun, hend, Or.inr ⟨T.heap.size, rfl, cls, ce, locs, hx U hWs.alike f1 (fun q hq => f2 q hq (fun z hz => nomatch hz)), hce, hO.vm, hcl, hWs, hall, hf⟩⟩
  refine st1 _ ?_
  show Steps p.tables e below (T1.setTop { method := m, pc := pc + 3, locals := ls, stack := .ref T.heap.size :: rest, locked := none }) _
  jvm_step X₁.here [X₁.here.top, hexec, d3', Value.category]
  exact hsteps

theorem vx_throwS {cc : ByteArray} {pc : Nat} (hexec : p.tables.exec = Jvm.exec) (hb : c.code = cc) (hl : l.stackTraces = false) {own cls text : String} {names : List String} {ik is ic mc ms sa : Nat} {A : Nat → Prop}
    (hown : s.vm.findClass own = some m.cls) (hcls : Bundle.fit cls = true) (hnames : ∀ n ∈ names, Bundle.fit n = true)
    (hk : (Cond.classLink own ik cls).before args s = true) (hini : (Cond.initialized cls).before args s = true) (hstr : vk_R own is text sa s) (hat : ∀ w ∈ vx_atS own ic cls names, w.before args s = true)
    (hgood : ∀ w ∈ Cond.classLink own ik cls :: Cond.initialized cls :: vx_atS own ic cls names, vx_ot w = true)
    (hU : vx_Zq Bundle.tN "UNASSIGNED_STACK" Bundle.steD A s s.heap) (hN : vx_Zq Bundle.tN "SUPPRESSED_SENTINEL" Bundle.listD A s s.heap) (hS : va_S A s.heap H locs) (hsize : ls.size = c.maxLocals)
    (d0 : decode cc pc = .ok (.new ik, 3)) (d3 : decode cc (pc + 3) = .ok (.dup, 1)) (d4 : decode cc (pc + 4) = .ok (.ldc is, 2)) (d6 : decode cc (pc + 6) = .ok (.invokespecial ic, 3)) (d9 : decode cc (pc + 9) = .ok (.athrow, 1))
    (hout : ∀ x ∈ c.exceptionTable.toList, covers x (pc + 9) = false)
    (hRframes : names.length + 3 < R.frames) (hRlocals : (rest.map fun v => v.category).sum + (13 * (names.length + 1) + 43) ≤ R.locals) (hRcells : cells + 1 ≤ R.cells) (hRslots : slots + 6 ≤ R.slots) (hlocks : meth.locks = false)
    (hx : ∀ t : State, s.vm.Alike t.vm → H.size ≤ t.heap.size → (∀ q : Nat, q < H.size → t.heap[q]? = H[q]?) → XC cls s t)
    (hf : ∀ z ∈ locs, free z.base) (hc : cells + 1 ≤ mc) (hs : slots + 6 ≤ ms) :
    W p l e R s m args below meth c H locs cells slots (vx_MQ below Qc XC args s mc ms free) (F0 m pc ls rest) := by
  intro T hT X
  have htr : e.platform.stackTraces = false := (show e.platform.stackTraces = l.stackTraces by rw [X.admits.platform]).trans hl
  have Y := vx_rebase X (R' := { frames := R.frames, locals := R.locals, cells := 1, slots := 6 }) (Nat.le_refl _) (Nat.le_refl _) hRcells hRslots
  obtain ⟨s', hA⟩ : ∃ z, z = (T.setVm s.vm).setFrames (.invoking m args :: below) := ⟨_, rfl⟩
  rw [← hA] at Y
  have hvm : s'.vm = s.vm := by rw [hA]; rfl
  have hhp : s'.heap = H := by rw [hA]; exact hT
  have hW0 : s.WarmedH s'.vm := by rw [hvm]; exact State.WarmedH.refl s
  have hat' : ∀ w ∈ vx_atS own ic cls names, w.before args s' = true := fun w hw => vx_ot_at hW0 hvm.symm (hgood w (List.mem_cons_of_mem _ (List.mem_cons_of_mem _ hw))) (hat w hw)
  have hk' : (Cond.classLink own ik cls).before args s' = true := vx_ot_at hW0 hvm.symm (hgood _ List.mem_cons_self) hk
  have hini' : (Cond.initialized cls).before args s' = true := vx_ot_at hW0 hvm.symm (hgood _ (List.mem_cons_of_mem _ List.mem_cons_self)) hini
  have hU' : vx_Zq Bundle.tN "UNASSIGNED_STACK" Bundle.steD A s' s'.heap := by rw [hhp]; exact vx_Zq.moved hW0.alike (hU.kept hS.2.1)
  have hN' : vx_Zq Bundle.tN "SUPPRESSED_SENTINEL" Bundle.listD A s' s'.heap := by rw [hhp]; exact vx_Zq.moved hW0.alike (hN.kept hS.2.1)
  have h : ∀ w ∈ Bundle.ownAtoms own ic cls names, w.before args s' = true := vx_own hat' (vx_isRefq hU'.1) (vx_isRefq hN'.1) hU'.2.word hN'.2.word
  have hown' : s'.vm.findClass own = some m.cls := by rw [hvm]; exact hown
  have hins : (Cond.instantiable cls 6).before args s' = true := h _ (by simp [Bundle.ownAtoms])
  obtain ⟨vm₁, cX, kX, hfX, hkX, -, -, X₁, st1⟩ := Y.newCold hexec (own := own) (C := cls) (index := ik) (n := 6) hown' hk' hins hini'
    (g := F0 m pc ls rest) rfl (by rw [hb]; exact d0) (Nat.le_refl _) (Nat.le_refl _)
  generalize hT1 : (T.setVm vm₁).pushCell { cls := cX, slots := kX.instanceTypes.map defaultValue, vm := .none } = T1 at X₁ st1
  have hcat : (Value.ref T.heap.size).category = 1 := rfl
  have hcellA : T1.heap[T.heap.size]? = some (freshCell cX kX) := by rw [← hT1]; exact State.heap_pushCell_size _ _
  have d3' : decode c.code (pc + 3) = .ok (.dup, 1) := by rw [hb]; exact d3
  have d4' : decode c.code (pc + 4) = .ok (.ldc is, 2) := by rw [hb]; exact d4
  have hstr' : vk_R own is text sa s' := vk_R.warm hW0 hstr
  obtain ⟨U, hsteps, hrun, hend, hW, hsame, ce, hce, hO⟩ := X₁.ctorThrowS hexec htr (own := own) (cls := cls) (names := names) (ic := ic) hown' hcls hnames h (fun x hx => nomatch hx) hfX hkX hcellA (by rw [hhp, hT]; exact Nat.le_refl _) (msg := .ref sa) rfl
    (g := { method := m, pc := pc + 6, locals := ls, stack := .ref sa :: .ref T.heap.size :: .ref T.heap.size :: rest, locked := none }) rfl hsize rfl rfl (rest := rest) rfl
    (by rw [hb]; exact d6) (by rw [hb]; exact d9) hout hRframes (by simp only [List.map_cons, List.sum_cons, hcat]; omega) hlocks
  obtain ⟨f1, f2⟩ := vx_frame hsame
  rw [hhp] at f1 f2
  have hWs : s.WarmedH U.vm := State.WarmedH.trans hW0 hW
  have hcl : s.vm.findClass cls = some ce.cls := by
    have h9 := hO.cls
    rw [hvm] at h9
    exact h9
  have hall : s.sameButNew ({ U with vm := s.vm } : State) locs mc ms := by
    subst hA
    obtain ⟨e1, e2⟩ := hsame
    rw [State.setFrames_setFrames] at e1
    have h2 : (T.setVm s.vm).sameButNew ({ U with vm := s.vm } : State) [] (0 + 1) (0 + 6) := ⟨e1, e2⟩
    have h3 := X.same.trans h2
    rw [List.append_nil] at h3
    exact h3.mono hc hs
  refine ⟨U, ?_, .threw T.heap.size, hrun, hend, Or.inr ⟨T.heap.size, rfl, cls, ce, locs, hx U hWs.alike f1 (fun q hq => f2 q hq (fun z hz => nomatch hz)), hce, hO.vm, hcl, hWs, hall, hf⟩⟩
  refine st1 _ ?_
  show Steps p.tables e below (T1.setTop { method := m, pc := pc + 3, locals := ls, stack := .ref T.heap.size :: rest, locked := none }) _
  jvm_step X₁.here [X₁.here.top, hexec, d3', Value.category]
  exact X₁.ldcString hexec (own := own) (text := text) (index := is) (a := sa) hown' hstr'.1 hstr'.2
    (g := { method := m, pc := pc + 4, locals := ls, stack := .ref T.heap.size :: .ref T.heap.size :: rest, locked := none }) rfl d4' _ hsteps

theorem vx_throwSW {cc : ByteArray} {pc : Nat} (hexec : p.tables.exec = Jvm.exec) (hb : c.code = cc) (hl : l.stackTraces = false) {own cls text : String} {names : List String} {ik is ic mc ms sa : Nat} {A : Nat → Prop}
    (hown : s.vm.findClass own = some m.cls) (hcls : Bundle.fit cls = true) (hnames : ∀ n ∈ names, Bundle.fit n = true)
    (hk : (Cond.classLink own ik cls).before args s = true) (hini : (Cond.initialized cls).before args s = true) (hstr : vk_R own is text sa s) (hat : ∀ w ∈ vx_atS own ic cls names, w.before args s = true)
    (hgood : ∀ w ∈ Cond.classLink own ik cls :: Cond.initialized cls :: vx_atS own ic cls names, vx_ot w = true)
    (hU : vx_Zq Bundle.tN "UNASSIGNED_STACK" Bundle.steD A s s.heap) (hN : vx_Zq Bundle.tN "SUPPRESSED_SENTINEL" Bundle.listD A s s.heap) (hS : va_S A s.heap H locs) (hsize : ls.size = c.maxLocals)
    (d0 : decode cc pc = .ok (.new ik, 3)) (d3 : decode cc (pc + 3) = .ok (.dup, 1)) (d4 : decode cc (pc + 4) = .ok (.ldc_w is, 3)) (d7 : decode cc (pc + 7) = .ok (.invokespecial ic, 3)) (d10 : decode cc (pc + 10) = .ok (.athrow, 1))
    (hout : ∀ x ∈ c.exceptionTable.toList, covers x (pc + 10) = false)
    (hRframes : names.length + 3 < R.frames) (hRlocals : (rest.map fun v => v.category).sum + (13 * (names.length + 1) + 43) ≤ R.locals) (hRcells : cells + 1 ≤ R.cells) (hRslots : slots + 6 ≤ R.slots) (hlocks : meth.locks = false)
    (hx : ∀ t : State, s.vm.Alike t.vm → H.size ≤ t.heap.size → (∀ q : Nat, q < H.size → t.heap[q]? = H[q]?) → XC cls s t)
    (hf : ∀ z ∈ locs, free z.base) (hc : cells + 1 ≤ mc) (hs : slots + 6 ≤ ms) :
    W p l e R s m args below meth c H locs cells slots (vx_MQ below Qc XC args s mc ms free) (F0 m pc ls rest) := by
  intro T hT X
  have htr : e.platform.stackTraces = false := (show e.platform.stackTraces = l.stackTraces by rw [X.admits.platform]).trans hl
  have Y := vx_rebase X (R' := { frames := R.frames, locals := R.locals, cells := 1, slots := 6 }) (Nat.le_refl _) (Nat.le_refl _) hRcells hRslots
  obtain ⟨s', hA⟩ : ∃ z, z = (T.setVm s.vm).setFrames (.invoking m args :: below) := ⟨_, rfl⟩
  rw [← hA] at Y
  have hvm : s'.vm = s.vm := by rw [hA]; rfl
  have hhp : s'.heap = H := by rw [hA]; exact hT
  have hW0 : s.WarmedH s'.vm := by rw [hvm]; exact State.WarmedH.refl s
  have hat' : ∀ w ∈ vx_atS own ic cls names, w.before args s' = true := fun w hw => vx_ot_at hW0 hvm.symm (hgood w (List.mem_cons_of_mem _ (List.mem_cons_of_mem _ hw))) (hat w hw)
  have hk' : (Cond.classLink own ik cls).before args s' = true := vx_ot_at hW0 hvm.symm (hgood _ List.mem_cons_self) hk
  have hini' : (Cond.initialized cls).before args s' = true := vx_ot_at hW0 hvm.symm (hgood _ (List.mem_cons_of_mem _ List.mem_cons_self)) hini
  have hU' : vx_Zq Bundle.tN "UNASSIGNED_STACK" Bundle.steD A s' s'.heap := by rw [hhp]; exact vx_Zq.moved hW0.alike (hU.kept hS.2.1)
  have hN' : vx_Zq Bundle.tN "SUPPRESSED_SENTINEL" Bundle.listD A s' s'.heap := by rw [hhp]; exact vx_Zq.moved hW0.alike (hN.kept hS.2.1)
  have h : ∀ w ∈ Bundle.ownAtoms own ic cls names, w.before args s' = true := vx_own hat' (vx_isRefq hU'.1) (vx_isRefq hN'.1) hU'.2.word hN'.2.word
  have hown' : s'.vm.findClass own = some m.cls := by rw [hvm]; exact hown
  have hins : (Cond.instantiable cls 6).before args s' = true := h _ (by simp [Bundle.ownAtoms])
  obtain ⟨vm₁, cX, kX, hfX, hkX, -, -, X₁, st1⟩ := Y.newCold hexec (own := own) (C := cls) (index := ik) (n := 6) hown' hk' hins hini'
    (g := F0 m pc ls rest) rfl (by rw [hb]; exact d0) (Nat.le_refl _) (Nat.le_refl _)
  generalize hT1 : (T.setVm vm₁).pushCell { cls := cX, slots := kX.instanceTypes.map defaultValue, vm := .none } = T1 at X₁ st1
  have hcat : (Value.ref T.heap.size).category = 1 := rfl
  have hcellA : T1.heap[T.heap.size]? = some (freshCell cX kX) := by rw [← hT1]; exact State.heap_pushCell_size _ _
  have d3' : decode c.code (pc + 3) = .ok (.dup, 1) := by rw [hb]; exact d3
  have d4' : decode c.code (pc + 4) = .ok (.ldc_w is, 3) := by rw [hb]; exact d4
  have hstr' : vk_R own is text sa s' := vk_R.warm hW0 hstr
  obtain ⟨U, hsteps, hrun, hend, hW, hsame, ce, hce, hO⟩ := X₁.ctorThrowS hexec htr (own := own) (cls := cls) (names := names) (ic := ic) hown' hcls hnames h (fun x hx => nomatch hx) hfX hkX hcellA (by rw [hhp, hT]; exact Nat.le_refl _) (msg := .ref sa) rfl
    (g := { method := m, pc := pc + 7, locals := ls, stack := .ref sa :: .ref T.heap.size :: .ref T.heap.size :: rest, locked := none }) rfl hsize rfl rfl (rest := rest) rfl
    (by rw [hb]; exact d7) (by rw [hb]; exact d10) hout hRframes (by simp only [List.map_cons, List.sum_cons, hcat]; omega) hlocks
  obtain ⟨f1, f2⟩ := vx_frame hsame
  rw [hhp] at f1 f2
  have hWs : s.WarmedH U.vm := State.WarmedH.trans hW0 hW
  have hcl : s.vm.findClass cls = some ce.cls := by
    have h9 := hO.cls
    rw [hvm] at h9
    exact h9
  have hall : s.sameButNew ({ U with vm := s.vm } : State) locs mc ms := by
    subst hA
    obtain ⟨e1, e2⟩ := hsame
    rw [State.setFrames_setFrames] at e1
    have h2 : (T.setVm s.vm).sameButNew ({ U with vm := s.vm } : State) [] (0 + 1) (0 + 6) := ⟨e1, e2⟩
    have h3 := X.same.trans h2
    rw [List.append_nil] at h3
    exact h3.mono hc hs
  refine ⟨U, ?_, .threw T.heap.size, hrun, hend, Or.inr ⟨T.heap.size, rfl, cls, ce, locs, hx U hWs.alike f1 (fun q hq => f2 q hq (fun z hz => nomatch hz)), hce, hO.vm, hcl, hWs, hall, hf⟩⟩
  refine st1 _ ?_
  show Steps p.tables e below (T1.setTop { method := m, pc := pc + 3, locals := ls, stack := .ref T.heap.size :: rest, locked := none }) _
  jvm_step X₁.here [X₁.here.top, hexec, d3', Value.category]
  exact X₁.ldcStringW hexec (own := own) (text := text) (index := is) (a := sa) hown' hstr'.1 hstr'.2
    (g := { method := m, pc := pc + 4, locals := ls, stack := .ref T.heap.size :: .ref T.heap.size :: rest, locked := none }) rfl d4' _ hsteps
end Ends
section Bodies
variable {l : Launch}
theorem vx_ofW {y : MethodName} {ws ws' : List Cond} {rm : Room} {Pc : Array Value → State → Prop} {Qc : Array Value → State → Outcome → State → Prop} {XC : String → State → State → Prop} {mc ms : Nat} {free : Addr → Prop} {cc : ByteArray} {maxL : Nat} {ret : Option FieldType}
    (hy : plainName y.cls = true) (hw : ws = Cond.code y cc maxL ret :: ws')
    (body : ∀ p e s m args below meth c s₁, BodyLoose p l y (headSpec ws rm) cc maxL ret e s m args below meth c s₁ → c.maxLocals = maxL → (∀ x ∈ c.exceptionTable.toList, False) → Pc args s →
      W p l e (headSpec ws rm).room s m args below meth c s.heap [] 0 0 (vx_MQ below Qc XC args s mc ms free) (entryFrame m args maxL)) : vx_Met l y ws rm Pc Qc XC mc ms free := by
  refine MetFree.of_bodyS (code := cc) (maxLocals := maxL) (ret := ret) hy ?_ ?_
  · intro args s m h hn
    obtain ⟨meth, c, h1, h2, h3, h4, h5, h6, -, -⟩ := Cond.code_spec hn (atoms_spec (ws := ws) h _ (by rw [hw]; exact List.mem_cons_self))
    exact ⟨meth, c, h1, h2, h3, h4, h5, h6⟩
  · intro p e s m args below meth c s₁ B hml hP _
    have hh0 : s₁.heap = s.heap := by rw [B.state]; rfl
    have ht : ∀ x ∈ c.exceptionTable.toList, False := by
      obtain ⟨meth9, c9, h1, h2, -, -, -, -, h7, -⟩ := Cond.code_spec B.named (atoms_spec (ws := ws) B.pre _ (by rw [hw]; exact List.mem_cons_self))
      cases Option.some.inj (h1.symm.trans B.method)
      cases Option.some.inj (h2.symm.trans (Stand.of_body B).code)
      intro x hx
      rw [Array.isEmpty_iff.mp h7] at hx
      cases hx
    obtain ⟨t, a1, o, b1, b2, b3⟩ := body p e s m args below meth c s₁ B hml ht hP s₁ hh0 (Stand.of_body B)
    exact ⟨t, o, a1, b1, b2, b3⟩

theorem vx_table {p : Program} {x y : MethodName} {S : Spec} {cc bytes : ByteArray} {maxL maxL' : Nat} {ret ret' : Option FieldType} {e : Env} {s s₁ : State} {m : MethodId} {args : Array Value} {below : List Frame} {meth : Method} {c : Code} {hh : List (Nat × Nat × Nat × Nat)}
    (B : BodyLoose p l y S cc maxL ret e s m args below meth c s₁) (h : (Cond.codeWith y bytes maxL' ret' hh).before args s = true) : c.exceptionTable.toList = tableOf hh := by
  obtain ⟨m9, meth9, c9, hn9, h1, h2, -, -, h6, -⟩ := Cond.codeWith_spec h
  cases Option.some.inj (hn9.symm.trans B.named)
  cases Option.some.inj (h1.symm.trans B.method)
  cases Option.some.inj (h2.symm.trans (Stand.of_body B).code)
  rw [← h6, table_eq]
end Bodies
end VXA


section VXS
variable {p : Program} {l : Launch} {e : Env} {R : Room} {s : State} {m : MethodId} {args : Array Value} {below : List Frame} {meth : Method} {c : Code} {T : State} {H : Heap} {locs : List Loc} {cells slots : Nat}
abbrev vx_CSW (R : Room) (s : State) (args : Array Value) (own : String) (index : Nat) (y : MethodName) (bytes : ByteArray) (maxL : Nat) (ret : Option FieldType) (hh : List (Nat × Nat × Nat × Nat)) (ws : List Cond) (rm : Room) (mc ms n : Nat) : Prop :=
  (rm.cells = mc ∧ rm.slots = ms ∧ rm.frames + 1 ≤ R.frames ∧ 8 + (maxL + 11) + rm.locals ≤ R.locals ∧ (∀ w ∈ ws, ∀ (a' : Array Value) (U : State), s.WarmedH U.vm → w.before a' U = true) ∧ Cond.codeWith y bytes maxL ret hh ∈ ws) ∧
  (Cond.codeWith y bytes maxL ret hh).before args s = true ∧ (Cond.initialized y.cls).before args s = true ∧ (y.cls ≠ "java/lang/invoke/MethodHandle" ∧ y.cls ≠ "java/lang/invoke/VarHandle") ∧
  (∀ sig, parseMethodDescriptor y.desc = some sig → n = sig.parameters.length) ∧ (Cond.methodLink own index y).before args s = true ∧ (Cond.static y).before args s = true
theorem vx_cwSW {own : String} {index maxL mc ms : Nat} {y : MethodName} {bytes : ByteArray} {ret : Option FieldType} {hh : List (Nat × Nat × Nat × Nat)} {Ts ws ws' : List Cond} {rm : Room} (n : Nat) (ht : ∀ w ∈ Ts, w.before args s = true) (hT : GoodIn Ts (va_wsS own index y ws)) (hw : ws = Cond.codeWith y bytes maxL ret hh :: ws') (hrc : rm.cells = mc) (hrs : rm.slots = ms)
    (hd : y.cls ≠ "java/lang/invoke/MethodHandle" ∧ y.cls ≠ "java/lang/invoke/VarHandle" ∧ (parseMethodDescriptor y.desc).map (fun d => d.parameters.length) = some n) (hR : rm.frames + 1 ≤ R.frames ∧ 8 + (maxL + 11) + rm.locals ≤ R.locals) :
    vx_CSW R s args own index y bytes maxL ret hh ws rm mc ms n := by
  have ok : ∀ w ∈ va_wsS own index y ws, w.before args s = true := fun w h => ht w (hT w h).1
  have hG : GoodIn Ts ws := fun w h => hT w (by unfold va_wsS; exact List.mem_append_right _ h)
  have hc : Cond.codeWith y bytes maxL ret hh ∈ ws := by rw [hw]; exact List.mem_cons_self
  refine ⟨⟨hrc, hrs, hR.1, hR.2, pay_in ht hG, hc⟩, ht _ (hG _ hc).1, ok _ (by simp [va_wsS]), ⟨hd.1, hd.2.1⟩, fun sig h => ?_, ok _ (by simp [va_wsS]), ok _ (by simp [va_wsS])⟩
  have h2 := hd.2.2
  rw [h] at h2
  exact (Option.some.inj h2).symm
theorem vx_callSW (X : Stand p l e R s m args below meth c T locs cells slots) (hexec : p.tables.exec = Jvm.exec) {own : String} {index : Nat} {y : MethodName} {bytes : ByteArray} {maxL : Nat} {ret : Option FieldType} {hh : List (Nat × Nat × Nat × Nat)}
    (hown : s.vm.findClass own = some m.cls) (hlink : (Cond.methodLink own index y).before args s = true) (hstat : (Cond.static y).before args s = true) (hinit : (Cond.initialized y.cls).before args s = true)
    (hcode : (Cond.codeWith y bytes maxL ret hh).before args s = true) (hy : y.cls ≠ "java/lang/invoke/MethodHandle" ∧ y.cls ≠ "java/lang/invoke/VarHandle")
    {W9 : Nat} {Pre : Pt → Array Value → Prop} {Post : Pt → Array Value → Option Value → Pt → Prop} (hK : Back l R p e below s args y 3 W9 Pre Post)
    {g : JFrame} (hg : g.method = m) (hsize : g.locals.size = c.maxLocals) {argsL rest : List Value} (hlen : ∀ sig, parseMethodDescriptor y.desc = some sig → argsL.length = sig.parameters.length)
    (hstack : g.stack = argsL.reverse ++ rest) (hW : 2 * g.monitorRoom + (rest.map fun v => v.category).sum ≤ W9) (hdg : decode c.code g.pc = .ok (.invokestatic index, 3))
    (hpre : ∀ vm₁, s.WarmedH vm₁ → Pre ⟨T.setVm vm₁, locs, cells, slots⟩ argsL.toArray) :
    ∃ (v : Option Value) (vm₁ : Vm) (B : Pt), s.WarmedH vm₁ ∧ Stand p l e R s m args below meth c B.U B.locs B.cells B.slots ∧ Post ⟨T.setVm vm₁, locs, cells, slots⟩ argsL.toArray v B ∧
      ∀ target, Steps p.tables e below (B.U.setTop { g with pc := g.pc + 3, stack := v.toList ++ rest }) target → Steps p.tables e below (T.setTop g) target := by
  obtain ⟨mk, methM, cM, hnamed, hmethM, -, -, -, -, -, -, hsigM⟩ := Cond.codeWith_spec hcode
  have hstatic : methM.isStatic = true := Cond.static_spec hnamed hmethM hstat
  obtain ⟨kP, hkP, -⟩ := className_of_methodNamed hnamed
  have hinitP : kP.init = .initialized := Cond.initialized_spec (findClass_of_methodNamed hnamed) hkP hinit
  obtain ⟨vm₁, X₁, hstep₁⟩ := X.invokestatic hexec hown hlink hnamed hmethM hstatic hkP hinitP hy (g := g) hg (argsL := argsL) (rest := rest) (hlen _ hsigM) hstack hdg
  obtain ⟨v, B, X', hpost, hsteps⟩ := hK m meth c ⟨T.setVm vm₁, locs, cells, slots⟩ { g with stack := rest } (.invokestatic index) mk argsL.toArray X₁ hg hsize hdg hW (X₁.named hnamed) (hpre vm₁ X₁.warmed)
  exact ⟨v, vm₁, B, X₁.warmed, X', hpost, fun target h => hstep₁ _ fun acts => by rw [doInvoke_state]; exact hsteps.trans h⟩
theorem vx_runSW {y : MethodName} {bytes cc : ByteArray} {maxL nL mc ms n index : Nat} {ret : Option FieldType} {hh : List (Nat × Nat × Nat × Nat)} {ws : List Cond} {rm : Room} {Pc : Array Value → State → Prop} {Qc : Array Value → State → Outcome → State → Prop} {free : Addr → Prop} {Ts : List Cond} {own : String} {As rest : List Value} {g : JFrame}
    (S : CallFix p m c cc nL s args Ts own) (hM : Met l y ws rm Pc Qc mc ms free) (cw : vx_CSW R s args own index y bytes maxL ret hh ws rm mc ms n) (hp : PreS s H Pc As)
    (hg : g.method = m) (hn : As.length = n) (hsize : g.locals.size = nL) (hstack : g.stack = As.reverse ++ rest) (hW : 2 * g.monitorRoom + (rest.map fun v => v.category).sum ≤ 8) (hdg : decode cc g.pc = .ok (.invokestatic index, 3)) (hf : cells + mc ≤ R.cells ∧ slots + ms ≤ R.slots) :
    va_Run p l e R s m args below meth c H locs cells slots mc ms g rest (Qc As.toArray) (free) := by
  obtain ⟨⟨hrc, hrs, hfr, hlo, hws, hcw⟩, hcode, hini, hy, hlen, hl, hstt⟩ := cw
  have hK : Back l R p e below s args y 3 8 (PreOf R mc ms Pc) (PostOf Qc mc ms free) := va_backW (hh := hh) (bytes := bytes) (maxL := maxL) (ret := ret) hM hp.1 hrc hrs hfr hlo hws hcw (fun a' U hW => word_at hW (Or.inl (by first | rfl | simp [Cond.onTables, Cond.keeps, Cond.steady])) hini)
  obtain ⟨hx, hb, hml, ho, -⟩ := S
  intro T hT X
  obtain ⟨v, vm₁, ⟨U', l2, c2, s2⟩, hW₁, X', ⟨g', mk, t, L, e1, e2, hq, h1, hL, h2, h3⟩, st⟩ := vx_callSW X hx (hh := hh) (bytes := bytes) (maxL := maxL) (ret := ret) ho hl hstt hini hcode hy hK hg (hsize.trans hml.symm) (argsL := As) (rest := rest) (fun sig h => hn.trans (hlen sig h)) hstack hW (by rw [hb]; exact hdg)
    (fun vm₁ hW₁ => ⟨hf.1, hf.2, hp.2 (T.setVm vm₁) hT hW₁⟩)
  dsimp only [Pt.U, Pt.locs, Pt.cells, Pt.slots] at X' e1 e2 h1 h2 h3 st
  subst h1; subst h2; subst h3
  exact ⟨v, (T.setVm vm₁).calling g' mk As.toArray, t, U', L, hT, X', hL, e1, e2, hq, st⟩

theorem vx_outP {p : Program} {l : Launch} {e : Env} {R : Room} {s : State} {m : MethodId} {args : Array Value} {below : List Frame} {meth : Method} {c : Code} {H : Heap} {locs : List Loc} {cells slots : Nat} {free : Addr → Prop} {ls : Array Slot} {rest : List Value} {Qc : Array Value → State → Outcome → State → Prop} {XC : String → State → State → Prop}
    {pc : Nat} {own E : String} {ce : Cell} {q : Addr} {mc ms : Nat} (hown : s.vm.findClass own = some m.cls) (hlocks : meth.locks = false)
    (hpass : ∀ z ∈ c.exceptionTable.toList, covers z pc = false ∨ (z.catchType ≠ 0 ∧ ∃ nm : String, (Cond.classLink own z.catchType nm).before args s = true ∧ va_Nc E nm s)) (hcell : H[q]? = some ce) (hv : ce.vm = .none) (hcl : s.vm.findClass E = some ce.cls)
    (hx : ∀ t : State, t.heap = H → s.vm.Alike t.vm → XC E s t) (hf : ∀ z ∈ locs, free z.base) (hc : cells ≤ mc) (hs : slots ≤ ms) :
    vx_W p l e R s m args below meth c H locs cells slots (vx_MQ below Qc XC args s mc ms free) (F0 m pc ls rest) q := by
  intro T hT X
  have hpl : e.platform.magicAccessors = ({} : Platform).magicAccessors := by rw [X.admits.platform]
  obtain ⟨vm', hW', X', st⟩ := X.outThrough hlocks q (g := F0 m pc ls rest) rfl rfl rfl (cell := ce) (by rw [hT]; exact hcell) (by rw [hv]; rfl)
    (by obtain ⟨k9, h9, -⟩ := Vm.findClass_spec hcl; exact ⟨k9, h9⟩) (fun z hz => by
      rcases hpass z hz with h | ⟨hz0, nm, hl1, hn1⟩
      · exact Or.inl h
      · obtain ⟨c6, hc6, hcl6⟩ := Cond.classLink_spec hown hl1 e.platform hpl
        obtain ⟨a8, b8, h1, h2, h3⟩ := hn1
        cases Option.some.inj (h1.symm.trans hcl)
        cases Option.some.inj (h2.symm.trans hc6)
        exact Or.inr ⟨hz0, _, hcl6, h3⟩)
  obtain ⟨g₀, hfr⟩ := X'.frames_eq
  have hcell9 : ((T.setVm vm').setFrames (.throwing q :: below)).heap[q]? = some ce := by
    show T.heap[q]? = some ce
    rw [hT]; exact hcell
  have hend : Ended ((T.setVm vm').setFrames (.throwing q :: below)) below (.threw q) := State.frames_setFrames _ (State.cur_lt_of_frames hfr)
  refine ⟨(T.setVm vm').setFrames (.throwing q :: below), ?_, .threw q, X'.here.running, hend, Or.inr ⟨q, rfl, E, ce, locs, hx _ hT (X'.ends _).1.alike, hcell9, hv, hcl, (X'.ends _).1, (X'.ends _).2.mono hc hs, hf⟩⟩
  rw [X.pushThrowing_eq]
  exact st

theorem vx_lt {D : va_G} {cl : List vw_C} {ws : va_W} {H1 : Heap} (h : va_P D cl ws H1) {k : Nat} {q : Nat × va_E} (hk : ws[k]? = some q) : q.1 < H1.size := (h k q hk).lt
end VXS


section VXH

section
variable {l : Launch} {R : Room} {p : Program} {e : Env} {below : List Frame} {s : State} {sargs : Array Value} {y : MethodName} {len W9 : Nat}
theorem vx_backW {ws : List Cond} {rm : Room} {Pc : Array Value → State → Prop} {Qc : Array Value → State → Outcome → State → Prop} {XC : String → State → State → Prop} {mc ms : Nat} {free : Addr → Prop} {bytes : ByteArray} {maxL : Nat} {ret : Option FieldType} {hh : List (Nat × Nat × Nat × Nat)}
    (hM : vx_Met l y ws rm Pc Qc XC mc ms free) (hblind : FrameBlind Pc) (hrc : rm.cells = mc) (hrs : rm.slots = ms)
    (hframes : rm.frames + 1 ≤ R.frames) (hlocals : W9 + (maxL + 11) + rm.locals ≤ R.locals)
    (hws : ∀ w ∈ ws, ∀ a' U, s.WarmedH U.vm → w.before a' U = true) (hcode : Cond.codeWith y bytes maxL ret hh ∈ ws) (hinit : ∀ a' U, s.WarmedH U.vm → (Cond.initialized y.cls).before a' U = true) :
    vx_Back l R p e below s sargs y len W9 (PreOf R mc ms Pc) (PostOf Qc mc ms free) (vx_Post XC mc ms free) := by
  intro m meth c A g ig mk a X hg hsize hdg hW hn hp
  have h1 : (headSpec ws rm).pre.before a A.U = true := atoms_intro fun w hw => hws w hw _ _ X.warmed
  have h2 : (Cond.codeWith y bytes maxL ret hh).before a A.U = true := hws _ hcode _ _ X.warmed
  have h3 : (Cond.initialized y.cls).before a A.U = true := hinit _ _ X.warmed
  have h4 : A.cells + (headSpec ws rm).room.cells ≤ R.cells := by rw [show (headSpec ws rm).room.cells = mc from hrc]; exact hp.1
  have h5 : A.slots + (headSpec ws rm).room.slots ≤ R.slots := by rw [show (headSpec ws rm).room.slots = ms from hrs]; exact hp.2.1
  have hPc : Pc a (A.U.calling g mk a) := hblind _ _ _ _ hp.2.2
  obtain ⟨U, Ls, c0, s0⟩ := A
  dsimp only [Pt.U, Pt.locs, Pt.cells, Pt.slots] at h1 h2 h3 h4 h5 X hn hPc ⊢
  obtain ⟨m9, methY, cY, hn9, hmY, hcY, -, hlY, -⟩ := Cond.codeWith_spec h2
  cases Option.some.inj (hn9.symm.trans hn)
  obtain ⟨kY, hkY, -⟩ := className_of_methodNamed hn
  have hinitY : kY.init = .initialized := Cond.initialized_spec (findClass_of_methodNamed hn) hkY h3
  have h : At U g.method c below := by rw [hg]; exact X.here
  have hlocals9 : W9 + (maxL + 11) + (headSpec ws rm).room.locals ≤ R.locals := hlocals
  have happ : (headSpec ws rm).appliesLoose y e.platform (U.calling g mk a) = true :=
    Spec.appliesLoose_calling (g := g) h hdg hn hkY hinitY
      (X.room_calling (g := g) (R' := (headSpec ws rm).room) hsize hmY hcY hframes (by rw [hlY]; omega) h4 h5) h1
  obtain ⟨mid, hmid⟩ := h.above
  have hfr : (U.setTop g).frames = (.java g :: mid) ++ below := by rw [State.frames_setTop' g h.top, hmid]; rfl
  obtain ⟨o, s₂, hsteps, -, hend, hq⟩ := Steps.callFree hM p X.admits X.cas X.clock (acts := []) hfr happ hPc trivial
  have hq' : vx_Q Qc XC mc ms free a (U.calling g mk a) o s₂ := hq
  rw [State.frames_setTop' g h.top] at hend
  obtain ⟨g₀, hg0⟩ := Option.isSome_iff_exists.mp h.top
  obtain ⟨r, hr⟩ := State.topJava?_eq_some.mp hg0
  have hr' : (({ U with heap := s₂.heap, slotsUsed := s₂.slotsUsed } : State).setVm s₂.vm).frames = .java g₀ :: r := hr
  rcases hq' with ⟨hqc, L, hfe, hL⟩ | ⟨q, rfl, E, ce, L, hx, hce, hcv, hcl, hW₂, hsm, hL⟩
  · obtain ⟨⟨v, rfl⟩, hW₂, e2, q2, q3, q4, q5, q6⟩ := id hfe
    have e3 : s₂ = ({ (U.calling g mk a).setFrames s₂.frames with heap := s₂.heap, slotsUsed := s₂.slotsUsed } : State).setVm s₂.vm := by
      have : s₂ = ({ s₂ with vm := (U.calling g mk a).vm } : State).setVm s₂.vm := rfl
      rw [e2] at this
      exact this
    obtain ⟨c₂, i₂, len₂, hc₂, hd₂, hf₂⟩ := hend
    have hW' : U.WarmedH s₂.vm := hW₂
    have hcc : c₂ = c := by
      have h1 : s₂.code? g.method = U.code? g.method := by
        rw [State.code?_eq, State.code?_eq, hW'.alike.method?]
      exact Option.some.inj (hc₂.symm.trans (h1.trans h.code))
    subst hcc
    have hlen : len₂ = len := by rw [hdg] at hd₂; cases hd₂; rfl
    subst hlen
    have hs₂ : s₂ = (({ U with heap := s₂.heap, slotsUsed := s₂.slotsUsed } : State).setVm s₂.vm).setTop { g with pc := g.pc + len₂, stack := v.toList ++ g.stack } := by
      refine e3.trans ?_
      rw [hf₂, State.calling_eq h.top, State.setFrames_setFrames, State.setTop_of_frames _ hr', hr]
      rfl
    have hsame : U.sameButNew ({ U with heap := s₂.heap, slotsUsed := s₂.slotsUsed } : State) L mc ms := by
      refine ⟨?_, q2, q3, q4, q5, q6⟩
      obtain ⟨t, ht, -⟩ := State.frames_cons hr
      show ({ U with heap := s₂.heap, slotsUsed := s₂.slotsUsed } : State) = { U.setFrames U.frames with heap := s₂.heap, slotsUsed := s₂.slotsUsed }
      rw [State.setFrames_self ht]
    subst hg
    refine Or.inl ⟨v, ⟨(({ U with heap := s₂.heap, slotsUsed := s₂.slotsUsed } : State).setVm s₂.vm), Ls ++ L, c0 + mc, s0 + ms⟩,
      ⟨X.admits, X.cas, X.clock, X.frames, X.room, X.hears, X.method, X.code, (X.here.setHeapUsed s₂.heap s₂.slotsUsed).setVm hW'.alike, X.tail, State.WarmedH.trans X.warmed hW', X.limits, X.bytes, X.same.trans (hsame.setVm s.vm)⟩,
      ⟨g, mk, s₂, L, rfl, rfl, hqc, rfl, hL, rfl, rfl⟩, ?_⟩
    show Steps p.tables e below _ ((({ U with heap := s₂.heap, slotsUsed := s₂.slotsUsed } : State).setVm s₂.vm).setTop { g with pc := g.pc + len₂, stack := v.toList ++ g.stack })
    rw [← hs₂]
    exact hsteps
  · obtain ⟨e2, q2, q3, q4, q5, q6⟩ := id hsm
    have e3 : s₂ = ({ (U.calling g mk a).setFrames s₂.frames with heap := s₂.heap, slotsUsed := s₂.slotsUsed } : State).setVm s₂.vm := by
      have : s₂ = ({ s₂ with vm := (U.calling g mk a).vm } : State).setVm s₂.vm := rfl
      rw [e2] at this
      exact this
    have hf₂ : s₂.frames = .throwing q :: .java g :: U.frames.tail := hend
    have hW' : U.WarmedH s₂.vm := hW₂
    have hs₂ : s₂ = ((({ U with heap := s₂.heap, slotsUsed := s₂.slotsUsed } : State).setVm s₂.vm).setTop g).pushFrame (.throwing q) := by
      refine e3.trans ?_
      rw [hf₂, State.calling_eq h.top, State.setFrames_setFrames, State.pushFrame, State.frames_setTop _ hr', State.setTop_of_frames _ hr', State.setFrames_setFrames, hr]
      rfl
    have hsame : U.sameButNew ({ U with heap := s₂.heap, slotsUsed := s₂.slotsUsed } : State) L mc ms := by
      refine ⟨?_, q2, q3, q4, q5, q6⟩
      obtain ⟨t, ht, -⟩ := State.frames_cons hr
      show ({ U with heap := s₂.heap, slotsUsed := s₂.slotsUsed } : State) = { U.setFrames U.frames with heap := s₂.heap, slotsUsed := s₂.slotsUsed }
      rw [State.setFrames_self ht]
    subst hg
    refine Or.inr ⟨q, ⟨(({ U with heap := s₂.heap, slotsUsed := s₂.slotsUsed } : State).setVm s₂.vm), Ls ++ L, c0 + mc, s0 + ms⟩,
      ⟨X.admits, X.cas, X.clock, X.frames, X.room, X.hears, X.method, X.code, (X.here.setHeapUsed s₂.heap s₂.slotsUsed).setVm hW'.alike, X.tail, State.WarmedH.trans X.warmed hW', X.limits, X.bytes, X.same.trans (hsame.setVm s.vm)⟩,
      ⟨g, mk, s₂, L, E, ce, rfl, rfl, hx, hce, hcv, hcl, rfl, hL, rfl, rfl⟩, ?_⟩
    show Steps p.tables e below _ (((({ U with heap := s₂.heap, slotsUsed := s₂.slotsUsed } : State).setVm s₂.vm).setTop g).pushFrame (.throwing q))
    rw [← hs₂]
    exact hsteps
end
variable {p : Program} {l : Launch} {e : Env} {R : Room} {s : State} {m : MethodId} {args : Array Value} {below : List Frame} {meth : Method} {c : Code} {T : State} {H : Heap} {locs : List Loc} {cells slots : Nat}
theorem vx_callVX (X : Stand p l e R s m args below meth c T locs cells slots) (hexec : p.tables.exec = Jvm.exec) {own C : String} {index : Nat} {y : MethodName} {bytes : ByteArray} {maxL : Nat} {ret : Option FieldType} {hh : List (Nat × Nat × Nat × Nat)}
    (hown : s.vm.findClass own = some m.cls) (hlink : (Cond.methodLink own index y).before args s = true) (hinst : (Cond.instanceMethod y).before args s = true) (hsel : (Cond.selects C y y).before args s = true)
    (hcode : (Cond.codeWith y bytes maxL ret hh).before args s = true) (hy : y.cls ≠ "java/lang/invoke/MethodHandle" ∧ y.cls ≠ "java/lang/invoke/VarHandle")
    {W9 : Nat} {Pre : Pt → Array Value → Prop} {Post : Pt → Array Value → Option Value → Pt → Prop} {PostX : Pt → Array Value → Addr → Pt → Prop} (hK : vx_Back l R p e below s args y 3 W9 Pre Post PostX)
    {b : Addr} {cellB : Cell} (hcell : T.heap[b]? = some cellB) (hobj : cellB.vm.isStatics = false) (hcls : s.vm.findClass C = some cellB.cls)
    {g : JFrame} (hg : g.method = m) (hsize : g.locals.size = c.maxLocals) {argsL rest : List Value} (hlen : ∀ sig, parseMethodDescriptor y.desc = some sig → argsL.length = sig.parameters.length)
    (hstack : g.stack = argsL.reverse ++ .ref b :: rest) (hW : 2 * g.monitorRoom + (rest.map fun v => v.category).sum ≤ W9) (hdg : decode c.code g.pc = .ok (.invokevirtual index, 3))
    (hpre : ∀ vm₁, s.WarmedH vm₁ → Pre ⟨T.setVm vm₁, locs, cells, slots⟩ (Value.ref b :: argsL).toArray) :
    (∃ (v : Option Value) (vm₁ : Vm) (B : Pt), s.WarmedH vm₁ ∧ Stand p l e R s m args below meth c B.U B.locs B.cells B.slots ∧ Post ⟨T.setVm vm₁, locs, cells, slots⟩ (Value.ref b :: argsL).toArray v B ∧
      ∀ target, Steps p.tables e below (B.U.setTop { g with pc := g.pc + 3, stack := v.toList ++ rest }) target → Steps p.tables e below (T.setTop g) target) ∨
    (∃ (q : Addr) (vm₁ : Vm) (B : Pt), s.WarmedH vm₁ ∧ Stand p l e R s m args below meth c B.U B.locs B.cells B.slots ∧ PostX ⟨T.setVm vm₁, locs, cells, slots⟩ (Value.ref b :: argsL).toArray q B ∧
      Steps p.tables e below (T.setTop g) ((B.U.setTop { g with stack := rest }).pushFrame (.throwing q))) := by
  obtain ⟨mk, methM, hnamed, hmethM, hstM, habM⟩ := Cond.instanceMethod_spec hinst
  obtain ⟨m8, methM', cM, hn8, hmethM', -, -, -, -, -, -, hsigM⟩ := Cond.codeWith_spec hcode
  cases Option.some.inj (hn8.symm.trans hnamed)
  cases hmethM.symm.trans hmethM'
  obtain ⟨c2, r2, m2, q1, q2, q3, q4, kP, hkP, hkPi⟩ := Cond.selects_spec hsel
  cases hcls.symm.trans q1
  cases (State.methodFound?_of_named hnamed hy).symm.trans q2
  cases hnamed.symm.trans q3
  have hselP : selectMethod e.platform s.vm cellB.cls mk = .method mk := by rw [Launch.admits_selectMethod X.admits]; exact q4
  obtain ⟨vm₁, X₁, hstep₁⟩ := X.invokevirtual hexec hown hlink hnamed hmethM hstM hkP hkPi hy (a := b) (cell := cellB) hcell
    (fun z h => by rw [h] at hobj; cases hobj) hselP hmethM habM hkP hkPi (g := g) hg (argsL := argsL) (rest := rest) (hlen _ hsigM) hstack hdg
  rcases hK m meth c ⟨T.setVm vm₁, locs, cells, slots⟩ { g with stack := rest } (.invokevirtual index) mk (Value.ref b :: argsL).toArray X₁ hg hsize hdg hW (X₁.named hnamed) (hpre vm₁ X₁.warmed) with ⟨v, B, X', hpost, hsteps⟩ | ⟨q, B, X', hpost, hsteps⟩
  · exact Or.inl ⟨v, vm₁, B, X₁.warmed, X', hpost, fun target h => hstep₁ _ fun acts => by rw [doInvoke_state]; exact hsteps.trans h⟩
  · exact Or.inr ⟨q, vm₁, B, X₁.warmed, X', hpost, hstep₁ _ fun acts => by rw [doInvoke_state]; exact hsteps⟩
theorem vx_callSX (X : Stand p l e R s m args below meth c T locs cells slots) (hexec : p.tables.exec = Jvm.exec) {own : String} {index : Nat} {y : MethodName} {bytes : ByteArray} {maxL : Nat} {ret : Option FieldType} {hh : List (Nat × Nat × Nat × Nat)}
    (hown : s.vm.findClass own = some m.cls) (hlink : (Cond.methodLink own index y).before args s = true) (hstat : (Cond.static y).before args s = true) (hinit : (Cond.initialized y.cls).before args s = true)
    (hcode : (Cond.codeWith y bytes maxL ret hh).before args s = true) (hy : y.cls ≠ "java/lang/invoke/MethodHandle" ∧ y.cls ≠ "java/lang/invoke/VarHandle")
    {W9 : Nat} {Pre : Pt → Array Value → Prop} {Post : Pt → Array Value → Option Value → Pt → Prop} {PostX : Pt → Array Value → Addr → Pt → Prop} (hK : vx_Back l R p e below s args y 3 W9 Pre Post PostX)
    {g : JFrame} (hg : g.method = m) (hsize : g.locals.size = c.maxLocals) {argsL rest : List Value} (hlen : ∀ sig, parseMethodDescriptor y.desc = some sig → argsL.length = sig.parameters.length)
    (hstack : g.stack = argsL.reverse ++ rest) (hW : 2 * g.monitorRoom + (rest.map fun v => v.category).sum ≤ W9) (hdg : decode c.code g.pc = .ok (.invokestatic index, 3))
    (hpre : ∀ vm₁, s.WarmedH vm₁ → Pre ⟨T.setVm vm₁, locs, cells, slots⟩ argsL.toArray) :
    (∃ (v : Option Value) (vm₁ : Vm) (B : Pt), s.WarmedH vm₁ ∧ Stand p l e R s m args below meth c B.U B.locs B.cells B.slots ∧ Post ⟨T.setVm vm₁, locs, cells, slots⟩ argsL.toArray v B ∧
      ∀ target, Steps p.tables e below (B.U.setTop { g with pc := g.pc + 3, stack := v.toList ++ rest }) target → Steps p.tables e below (T.setTop g) target) ∨
    (∃ (q : Addr) (vm₁ : Vm) (B : Pt), s.WarmedH vm₁ ∧ Stand p l e R s m args below meth c B.U B.locs B.cells B.slots ∧ PostX ⟨T.setVm vm₁, locs, cells, slots⟩ argsL.toArray q B ∧
      Steps p.tables e below (T.setTop g) ((B.U.setTop { g with stack := rest }).pushFrame (.throwing q))) := by
  obtain ⟨mk, methM, cM, hnamed, hmethM, -, -, -, -, -, -, hsigM⟩ := Cond.codeWith_spec hcode
  have hstatic : methM.isStatic = true := Cond.static_spec hnamed hmethM hstat
  obtain ⟨kP, hkP, -⟩ := className_of_methodNamed hnamed
  have hinitP : kP.init = .initialized := Cond.initialized_spec (findClass_of_methodNamed hnamed) hkP hinit
  obtain ⟨vm₁, X₁, hstep₁⟩ := X.invokestatic hexec hown hlink hnamed hmethM hstatic hkP hinitP hy (g := g) hg (argsL := argsL) (rest := rest) (hlen _ hsigM) hstack hdg
  rcases hK m meth c ⟨T.setVm vm₁, locs, cells, slots⟩ { g with stack := rest } (.invokestatic index) mk argsL.toArray X₁ hg hsize hdg hW (X₁.named hnamed) (hpre vm₁ X₁.warmed) with ⟨v, B, X', hpost, hsteps⟩ | ⟨q, B, X', hpost, hsteps⟩
  · exact Or.inl ⟨v, vm₁, B, X₁.warmed, X', hpost, fun target h => hstep₁ _ fun acts => by rw [doInvoke_state]; exact hsteps.trans h⟩
  · exact Or.inr ⟨q, vm₁, B, X₁.warmed, X', hpost, hstep₁ _ fun acts => by rw [doInvoke_state]; exact hsteps⟩
theorem vx_callVW (X : Stand p l e R s m args below meth c T locs cells slots) (hexec : p.tables.exec = Jvm.exec) {own C : String} {index : Nat} {y : MethodName} {bytes : ByteArray} {maxL : Nat} {ret : Option FieldType} {hh : List (Nat × Nat × Nat × Nat)}
    (hown : s.vm.findClass own = some m.cls) (hlink : (Cond.methodLink own index y).before args s = true) (hinst : (Cond.instanceMethod y).before args s = true) (hsel : (Cond.selects C y y).before args s = true)
    (hcode : (Cond.codeWith y bytes maxL ret hh).before args s = true) (hy : y.cls ≠ "java/lang/invoke/MethodHandle" ∧ y.cls ≠ "java/lang/invoke/VarHandle")
    {W9 : Nat} {Pre : Pt → Array Value → Prop} {Post : Pt → Array Value → Option Value → Pt → Prop} (hK : Back l R p e below s args y 3 W9 Pre Post)
    {b : Addr} {cellB : Cell} (hcell : T.heap[b]? = some cellB) (hobj : cellB.vm.isStatics = false) (hcls : s.vm.findClass C = some cellB.cls)
    {g : JFrame} (hg : g.method = m) (hsize : g.locals.size = c.maxLocals) {argsL rest : List Value} (hlen : ∀ sig, parseMethodDescriptor y.desc = some sig → argsL.length = sig.parameters.length)
    (hstack : g.stack = argsL.reverse ++ .ref b :: rest) (hW : 2 * g.monitorRoom + (rest.map fun v => v.category).sum ≤ W9) (hdg : decode c.code g.pc = .ok (.invokevirtual index, 3))
    (hpre : ∀ vm₁, s.WarmedH vm₁ → Pre ⟨T.setVm vm₁, locs, cells, slots⟩ (Value.ref b :: argsL).toArray) :
    ∃ (v : Option Value) (vm₁ : Vm) (B : Pt), s.WarmedH vm₁ ∧ Stand p l e R s m args below meth c B.U B.locs B.cells B.slots ∧ Post ⟨T.setVm vm₁, locs, cells, slots⟩ (Value.ref b :: argsL).toArray v B ∧
      ∀ target, Steps p.tables e below (B.U.setTop { g with pc := g.pc + 3, stack := v.toList ++ rest }) target → Steps p.tables e below (T.setTop g) target := by
  obtain ⟨mk, methM, hnamed, hmethM, hstM, habM⟩ := Cond.instanceMethod_spec hinst
  obtain ⟨m8, methM', cM, hn8, hmethM', -, -, -, -, -, -, hsigM⟩ := Cond.codeWith_spec hcode
  cases Option.some.inj (hn8.symm.trans hnamed)
  cases hmethM.symm.trans hmethM'
  obtain ⟨c2, r2, m2, q1, q2, q3, q4, kP, hkP, hkPi⟩ := Cond.selects_spec hsel
  cases hcls.symm.trans q1
  cases (State.methodFound?_of_named hnamed hy).symm.trans q2
  cases hnamed.symm.trans q3
  have hselP : selectMethod e.platform s.vm cellB.cls mk = .method mk := by rw [Launch.admits_selectMethod X.admits]; exact q4
  obtain ⟨vm₁, X₁, hstep₁⟩ := X.invokevirtual hexec hown hlink hnamed hmethM hstM hkP hkPi hy (a := b) (cell := cellB) hcell
    (fun z h => by rw [h] at hobj; cases hobj) hselP hmethM habM hkP hkPi (g := g) hg (argsL := argsL) (rest := rest) (hlen _ hsigM) hstack hdg
  obtain ⟨v, B, X', hpost, hsteps⟩ := hK m meth c ⟨T.setVm vm₁, locs, cells, slots⟩ { g with stack := rest } (.invokevirtual index) mk (Value.ref b :: argsL).toArray X₁ hg hsize hdg hW (X₁.named hnamed) (hpre vm₁ X₁.warmed)
  exact ⟨v, vm₁, B, X₁.warmed, X', hpost, fun target h => hstep₁ _ fun acts => by rw [doInvoke_state]; exact hsteps.trans h⟩
abbrev vx_CVW (R : Room) (s : State) (args : Array Value) (own C : String) (index : Nat) (y : MethodName) (bytes : ByteArray) (maxL : Nat) (ret : Option FieldType) (hh : List (Nat × Nat × Nat × Nat)) (ws : List Cond) (rm : Room) (mc ms n : Nat) : Prop :=
  (rm.cells = mc ∧ rm.slots = ms ∧ rm.frames + 1 ≤ R.frames ∧ 8 + (maxL + 11) + rm.locals ≤ R.locals ∧ (∀ w ∈ ws, ∀ (a' : Array Value) (U : State), s.WarmedH U.vm → w.before a' U = true) ∧ Cond.codeWith y bytes maxL ret hh ∈ ws) ∧
  (Cond.codeWith y bytes maxL ret hh).before args s = true ∧ (Cond.initialized y.cls).before args s = true ∧ (y.cls ≠ "java/lang/invoke/MethodHandle" ∧ y.cls ≠ "java/lang/invoke/VarHandle") ∧
  (∀ sig, parseMethodDescriptor y.desc = some sig → n = sig.parameters.length) ∧ (Cond.methodLink own index y).before args s = true ∧ (Cond.instanceMethod y).before args s = true ∧ (Cond.selects C y y).before args s = true
theorem vx_cwVW {own C : String} {index maxL mc ms : Nat} {y : MethodName} {bytes : ByteArray} {ret : Option FieldType} {hh : List (Nat × Nat × Nat × Nat)} {Ts ws ws' : List Cond} {rm : Room} (n : Nat) (ht : ∀ w ∈ Ts, w.before args s = true) (hT : GoodIn Ts (wsV own index C y ws)) (hw : ws = Cond.codeWith y bytes maxL ret hh :: ws') (hrc : rm.cells = mc) (hrs : rm.slots = ms)
    (hd : y.cls = C ∧ y.cls ≠ "java/lang/invoke/MethodHandle" ∧ y.cls ≠ "java/lang/invoke/VarHandle" ∧ (parseMethodDescriptor y.desc).map (fun d => d.parameters.length) = some n) (hR : rm.frames + 1 ≤ R.frames ∧ 8 + (maxL + 11) + rm.locals ≤ R.locals) :
    vx_CVW R s args own C index y bytes maxL ret hh ws rm mc ms n := by
  obtain ⟨hC, hd⟩ := hd
  subst hC
  have ok : ∀ w ∈ wsV own index y.cls y ws, w.before args s = true := fun w h => ht w (hT w h).1
  have hG : GoodIn Ts ws := fun w h => hT w (by unfold wsV; exact List.mem_append_right _ h)
  have hc : Cond.codeWith y bytes maxL ret hh ∈ ws := by rw [hw]; exact List.mem_cons_self
  refine ⟨⟨hrc, hrs, hR.1, hR.2, pay_in ht hG, hc⟩, ht _ (hG _ hc).1, ok _ (by simp [wsV]), ⟨hd.1, hd.2.1⟩, fun sig h => ?_, ok _ (by simp [wsV]), ok _ (by simp [wsV]), ok _ (by simp [wsV])⟩
  have h2 := hd.2.2
  rw [h] at h2
  exact (Option.some.inj h2).symm
theorem vx_runVW {y : MethodName} {bytes cc : ByteArray} {maxL nL mc ms n index : Nat} {ret : Option FieldType} {hh : List (Nat × Nat × Nat × Nat)} {ws : List Cond} {rm : Room} {Pc : Array Value → State → Prop} {Qc : Array Value → State → Outcome → State → Prop} {free : Addr → Prop} {Ts : List Cond} {own C : String} {b : Addr} {As rest : List Value} {g : JFrame}
    (S : CallFix p m c cc nL s args Ts own) (hM : Met l y ws rm Pc Qc mc ms free) (cw : vx_CVW R s args own C index y bytes maxL ret hh ws rm mc ms n) (hp : PreV s H C b Pc As)
    (hg : g.method = m) (hn : As.length = n) (hsize : g.locals.size = nL) (hstack : g.stack = As.reverse ++ .ref b :: rest) (hW : 2 * g.monitorRoom + (rest.map fun v => v.category).sum ≤ 8) (hdg : decode cc g.pc = .ok (.invokevirtual index, 3)) (hf : cells + mc ≤ R.cells ∧ slots + ms ≤ R.slots) :
    va_Run p l e R s m args below meth c H locs cells slots mc ms g rest (Qc (Value.ref b :: As).toArray) free := by
  obtain ⟨⟨hrc, hrs, hfr, hlo, hws, hcw⟩, hcode, hini, hy, hlen, hl, hin, hse⟩ := cw
  have hK : Back l R p e below s args y 3 8 (PreOf R mc ms Pc) (PostOf Qc mc ms free) := va_backW (hh := hh) (bytes := bytes) (maxL := maxL) (ret := ret) hM hp.1 hrc hrs hfr hlo hws hcw (fun a' U hW => word_at hW (Or.inl (by first | rfl | simp [Cond.onTables, Cond.keeps, Cond.steady])) hini)
  obtain ⟨hx, hb, hml, ho, -⟩ := S
  obtain ⟨-, ⟨cellB, hcB, hoB, hclB⟩, hPc⟩ := hp
  intro T hT X
  obtain ⟨v, vm₁, ⟨U', l2, c2, s2⟩, hW₁, X', ⟨g', mk, t, L, e1, e2, hq, h1, hL, h2, h3⟩, st⟩ := vx_callVW X hx (C := C) (hh := hh) (bytes := bytes) (maxL := maxL) (ret := ret) ho hl hin hse hcode hy hK (by rw [hT]; exact hcB) hoB hclB hg (hsize.trans hml.symm) (argsL := As) (rest := rest) (fun sig h => hn.trans (hlen sig h)) hstack hW (by rw [hb]; exact hdg)
    (fun vm₁ hW₁ => ⟨hf.1, hf.2, hPc (T.setVm vm₁) hT hW₁⟩)
  dsimp only [Pt.U, Pt.locs, Pt.cells, Pt.slots] at X' e1 e2 h1 h2 h3 st
  subst h1; subst h2; subst h3
  exact ⟨v, (T.setVm vm₁).calling g' mk (Value.ref b :: As).toArray, t, U', L, hT, X', hL, e1, e2, hq, st⟩
section
variable {y : MethodName} {bytes cc : ByteArray} {maxL nL mc ms n index : Nat} {ret : Option FieldType} {ws : List Cond} {rm : Room} {Pc : Array Value → State → Prop} {Qc : Array Value → State → Outcome → State → Prop} {XC : String → State → State → Prop} {free : Addr → Prop} {Ts : List Cond} {own C : String} {b : Addr} {As rest : List Value} {g : JFrame}
theorem vx_runVX {hh : List (Nat × Nat × Nat × Nat)} (S : CallFix p m c cc nL s args Ts own) (hM : vx_Met l y ws rm Pc Qc XC mc ms free) (cw : vx_CVW R s args own C index y bytes maxL ret hh ws rm mc ms n) (hp : PreV s H C b Pc As)
    (hg : g.method = m) (hn : As.length = n) (hsize : g.locals.size = nL) (hstack : g.stack = As.reverse ++ .ref b :: rest) (hW : 2 * g.monitorRoom + (rest.map fun v => v.category).sum ≤ 8) (hdg : decode cc g.pc = .ok (.invokevirtual index, 3)) (hf : cells + mc ≤ R.cells ∧ slots + ms ≤ R.slots) :
    vx_Run p l e R s m args below meth c H locs cells slots mc ms g rest (Qc (Value.ref b :: As).toArray) XC free := by
  obtain ⟨⟨hrc, hrs, hfr, hlo, hws, hcw⟩, hcode, hini, hy, hlen, hl, hin, hse⟩ := cw
  have hK : vx_Back l R p e below s args y 3 8 (PreOf R mc ms Pc) (PostOf Qc mc ms free) (vx_Post XC mc ms free) := vx_backW (hh := hh) (bytes := bytes) (maxL := maxL) (ret := ret) hM hp.1 hrc hrs hfr hlo hws hcw (fun a' U hW => word_at hW (Or.inl (by first | rfl | simp [Cond.onTables, Cond.keeps, Cond.steady])) hini)
  obtain ⟨hx, hb, hml, ho, -⟩ := S
  obtain ⟨-, ⟨cellB, hcB, hoB, hclB⟩, hPc⟩ := hp
  intro T hT X
  rcases vx_callVX X hx (C := C) (hh := hh) (bytes := bytes) (maxL := maxL) (ret := ret) ho hl hin hse hcode hy hK (by rw [hT]; exact hcB) hoB hclB hg (hsize.trans hml.symm) (argsL := As) (rest := rest) (fun sig h => hn.trans (hlen sig h)) hstack hW (by rw [hb]; exact hdg)
    (fun vm₁ hW₁ => ⟨hf.1, hf.2, hPc (T.setVm vm₁) hT hW₁⟩) with ⟨v, vm₁, ⟨U', l2, c2, s2⟩, hW₁, X', ⟨g', mk, t, L, e1, e2, hq, h1, hL, h2, h3⟩, st⟩ | ⟨q, vm₁, ⟨U', l2, c2, s2⟩, hW₁, X', ⟨g', mk, t, L, E, ce, e1, e2, hq, hce, hcv, hcl, h1, hL, h2, h3⟩, st⟩
  · dsimp only [Pt.U, Pt.locs, Pt.cells, Pt.slots] at X' e1 e2 h1 h2 h3 st
    subst h1; subst h2; subst h3
    exact Or.inl ⟨v, (T.setVm vm₁).calling g' mk (Value.ref b :: As).toArray, t, U', L, hT, X', hL, e1, e2, hq, st⟩
  · dsimp only [Pt.U, Pt.locs, Pt.cells, Pt.slots] at X' e1 e2 h1 h2 h3 st hcl
    subst h1; subst h2; subst h3
    exact Or.inr ⟨q, (T.setVm vm₁).calling g' mk (Value.ref b :: As).toArray, t, U', L, E, ce, hT, X', hL, e1, e2, hq, hce, hcv, vx_cls hW₁ hcl, st⟩
theorem vx_runSX {hh : List (Nat × Nat × Nat × Nat)} (S : CallFix p m c cc nL s args Ts own) (hM : vx_Met l y ws rm Pc Qc XC mc ms free) (cw : vx_CSW R s args own index y bytes maxL ret hh ws rm mc ms n) (hp : PreS s H Pc As)
    (hg : g.method = m) (hn : As.length = n) (hsize : g.locals.size = nL) (hstack : g.stack = As.reverse ++ rest) (hW : 2 * g.monitorRoom + (rest.map fun v => v.category).sum ≤ 8) (hdg : decode cc g.pc = .ok (.invokestatic index, 3)) (hf : cells + mc ≤ R.cells ∧ slots + ms ≤ R.slots) :
    vx_Run p l e R s m args below meth c H locs cells slots mc ms g rest (Qc As.toArray) XC free := by
  obtain ⟨⟨hrc, hrs, hfr, hlo, hws, hcw⟩, hcode, hini, hy, hlen, hl, hstt⟩ := cw
  have hK : vx_Back l R p e below s args y 3 8 (PreOf R mc ms Pc) (PostOf Qc mc ms free) (vx_Post XC mc ms free) := vx_backW (hh := hh) (bytes := bytes) (maxL := maxL) (ret := ret) hM hp.1 hrc hrs hfr hlo hws hcw (fun a' U hW => word_at hW (Or.inl (by first | rfl | simp [Cond.onTables, Cond.keeps, Cond.steady])) hini)
  obtain ⟨hx, hb, hml, ho, -⟩ := S
  intro T hT X
  rcases vx_callSX X hx (hh := hh) (bytes := bytes) (maxL := maxL) (ret := ret) ho hl hstt hini hcode hy hK hg (hsize.trans hml.symm) (argsL := As) (rest := rest) (fun sig h => hn.trans (hlen sig h)) hstack hW (by rw [hb]; exact hdg)
    (fun vm₁ hW₁ => ⟨hf.1, hf.2, hp.2 (T.setVm vm₁) hT hW₁⟩) with ⟨v, vm₁, ⟨U', l2, c2, s2⟩, hW₁, X', ⟨g', mk, t, L, e1, e2, hq, h1, hL, h2, h3⟩, st⟩ | ⟨q, vm₁, ⟨U', l2, c2, s2⟩, hW₁, X', ⟨g', mk, t, L, E, ce, e1, e2, hq, hce, hcv, hcl, h1, hL, h2, h3⟩, st⟩
  · dsimp only [Pt.U, Pt.locs, Pt.cells, Pt.slots] at X' e1 e2 h1 h2 h3 st
    subst h1; subst h2; subst h3
    exact Or.inl ⟨v, (T.setVm vm₁).calling g' mk As.toArray, t, U', L, hT, X', hL, e1, e2, hq, st⟩
  · dsimp only [Pt.U, Pt.locs, Pt.cells, Pt.slots] at X' e1 e2 h1 h2 h3 st hcl
    subst h1; subst h2; subst h3
    exact Or.inr ⟨q, (T.setVm vm₁).calling g' mk As.toArray, t, U', L, E, ce, hT, X', hL, e1, e2, hq, hce, hcv, vx_cls hW₁ hcl, st⟩
end
end VXH
theorem vx_ofWH {l : Launch} {y : MethodName} {ws ws' : List Cond} {rm : Room} {Pc : Array Value → State → Prop} {Qc : Array Value → State → Outcome → State → Prop} {XC : String → State → State → Prop} {mc ms : Nat} {free : Addr → Prop} {cc : ByteArray} {maxL : Nat} {ret : Option FieldType} {hh : List (Nat × Nat × Nat × Nat)}
    (hy : plainName y.cls = true) (hw : ws = Cond.codeWith y cc maxL ret hh :: ws')
    (body : ∀ p e s m args below meth c s₁, BodyLoose p l y (headSpec ws rm) cc maxL ret e s m args below meth c s₁ → c.maxLocals = maxL → Pc args s →
      W p l e (headSpec ws rm).room s m args below meth c s.heap [] 0 0 (vx_MQ below Qc XC args s mc ms free) (entryFrame m args maxL)) : vx_Met l y ws rm Pc Qc XC mc ms free := by
  refine MetFree.of_bodyS (code := cc) (maxLocals := maxL) (ret := ret) hy ?_ ?_
  · intro args s m h hn
    obtain ⟨m9, meth, c, hn9, h1, h2, h3, h4, -, h5, h6, -⟩ := Cond.codeWith_spec (atoms_spec (ws := ws) h _ (by rw [hw]; exact List.mem_cons_self))
    cases hn.symm.trans hn9
    exact ⟨meth, c, h1, h2, h3, h4, h5, h6⟩
  · intro p e s m args below meth c s₁ B hml hP _
    have hh0 : s₁.heap = s.heap := by rw [B.state]; rfl
    obtain ⟨t, a1, o, b1, b2, b3⟩ := body p e s m args below meth c s₁ B hml hP s₁ hh0 (Stand.of_body B)
    exact ⟨t, o, a1, b1, b2, b3⟩
end
section
def RX : String := "FeedModulus"
def TX : u_T := fun k => match k with
  | 0 => ("FeedModulus", "parts", "LFeedModulus$Parts;", true)
  | 1 => ("FeedModulus", "riserTable", "LFeedModulus$RiserTable;", true)
  | 2 => ("FeedModulus", "flowTable", "LFeedModulus$FlowTable;", true)
  | _ => ("FeedModulus", "moldingBox", "LFeedModulus$MoldingBox;", true)
def tyX : Nat → FieldType := fun k => match k with
  | 0 => .object "FeedModulus$Parts"
  | 1 => .object "FeedModulus$RiserTable"
  | 2 => .object "FeedModulus$FlowTable"
  | _ => .object "FeedModulus$MoldingBox"
theorem nokX : ∀ a, a < 4 → ∀ b, b < 4 → a ≠ b → (TX a).2.1 ≠ (TX b).2.1 := by decide +kernel
theorem tokX : ∀ k, k < 4 → parseFieldDescriptor (TX k).2.2.1 = some (tyX k) := by decide +kernel
def RP : String := "FeedModulus$Parts"
def TP : u_T := fun k => match k with
  | 0 => ("FeedModulus$Parts", "uppers", "[J", true)
  | 1 => ("FeedModulus$Parts", "lowers", "[J", true)
  | 2 => ("FeedModulus$Parts", "faces", "[I", true)
  | 3 => ("FeedModulus$Parts", "weights", "[I", true)
  | 4 => ("FeedModulus$Parts", "times", "[I", true)
  | 5 => ("FeedModulus$Parts", "risers", "[I", true)
  | 6 => ("FeedModulus$Parts", "joints", "[Z", true)
  | _ => ("FeedModulus$Parts", "count", "I", false)
def tyP : Nat → FieldType := fun k => match k with
  | 0 => .array .long
  | 1 => .array .long
  | 2 => .array .int
  | 3 => .array .int
  | 4 => .array .int
  | 5 => .array .int
  | 6 => .array .boolean
  | _ => .int
theorem nokP : ∀ a, a < 8 → ∀ b, b < 8 → a ≠ b → (TP a).2.1 ≠ (TP b).2.1 := by decide +kernel
theorem tokP : ∀ k, k < 8 → parseFieldDescriptor (TP k).2.2.1 = some (tyP k) := by decide +kernel
def RR : String := "FeedModulus$RiserTable"
def TR : u_T := fun k => match k with
  | 0 => ("FeedModulus$RiserTable", "uppers", "[J", true)
  | 1 => ("FeedModulus$RiserTable", "lowers", "[J", true)
  | _ => ("FeedModulus$RiserTable", "count", "I", false)
def tyR : Nat → FieldType := fun k => match k with
  | 0 => .array .long
  | 1 => .array .long
  | _ => .int
theorem nokR : ∀ a, a < 3 → ∀ b, b < 3 → a ≠ b → (TR a).2.1 ≠ (TR b).2.1 := by decide +kernel
theorem tokR : ∀ k, k < 3 → parseFieldDescriptor (TR k).2.2.1 = some (tyR k) := by decide +kernel
def RF : String := "FeedModulus$FlowTable"
def TF : u_T := fun k => match k with
  | 0 => ("FeedModulus$FlowTable", "openings", "[I", true)
  | 1 => ("FeedModulus$FlowTable", "flows", "[I", true)
  | _ => ("FeedModulus$FlowTable", "count", "I", false)
def tyF : Nat → FieldType := fun k => match k with
  | 0 => .array .int
  | 1 => .array .int
  | _ => .int
theorem nokF : ∀ a, a < 3 → ∀ b, b < 3 → a ≠ b → (TF a).2.1 ≠ (TF b).2.1 := by decide +kernel
theorem tokF : ∀ k, k < 3 → parseFieldDescriptor (TF k).2.2.1 = some (tyF k) := by decide +kernel
def RM : String := "FeedModulus$MoldingBox"
def TM : u_T := fun k => match k with
  | 0 => ("FeedModulus$MoldingBox", "thingsAlongWidth", "[I", true)
  | 1 => ("FeedModulus$MoldingBox", "thingsAlongDepth", "[I", true)
  | 2 => ("FeedModulus$MoldingBox", "shelfBegins", "[I", true)
  | 3 => ("FeedModulus$MoldingBox", "shelfDepths", "[I", true)
  | 4 => ("FeedModulus$MoldingBox", "shelfWidthsUsed", "[I", true)
  | 5 => ("FeedModulus$MoldingBox", "width", "I", false)
  | 6 => ("FeedModulus$MoldingBox", "depth", "I", false)
  | 7 => ("FeedModulus$MoldingBox", "depthUsed", "I", false)
  | 8 => ("FeedModulus$MoldingBox", "things", "I", false)
  | _ => ("FeedModulus$MoldingBox", "shelves", "I", false)
def tyM : Nat → FieldType := fun k => match k with
  | 0 => .array .int
  | 1 => .array .int
  | 2 => .array .int
  | 3 => .array .int
  | 4 => .array .int
  | 5 => .int
  | 6 => .int
  | 7 => .int
  | 8 => .int
  | _ => .int
theorem nokM : ∀ a, a < 10 → ∀ b, b < 10 → a ≠ b → (TM a).2.1 ≠ (TM b).2.1 := by decide +kernel
theorem tokM : ∀ k, k < 10 → parseFieldDescriptor (TM k).2.2.1 = some (tyM k) := by decide +kernel
def RD : String := "FeedModulusModel"
def TD : u_T := fun k => match k with
  | 0 => ("FeedModulusModel", "thrown", "I", false)
  | 1 => ("FeedModulusModel", "parts", "I", false)
  | 2 => ("FeedModulusModel", "round", "[Z", true)
  | 3 => ("FeedModulusModel", "a", "[I", true)
  | 4 => ("FeedModulusModel", "b", "[I", true)
  | 5 => ("FeedModulusModel", "c", "[I", true)
  | 6 => ("FeedModulusModel", "cools", "[I", true)
  | 7 => ("FeedModulusModel", "joined", "[I", true)
  | 8 => ("FeedModulusModel", "riserOf", "[I", true)
  | 9 => ("FeedModulusModel", "risers", "I", false)
  | 10 => ("FeedModulusModel", "riserD", "[I", true)
  | 11 => ("FeedModulusModel", "riserH", "[I", true)
  | 12 => ("FeedModulusModel", "flows", "I", false)
  | 13 => ("FeedModulusModel", "opening", "[I", true)
  | 14 => ("FeedModulusModel", "flow", "[I", true)
  | 15 => ("FeedModulusModel", "width", "I", false)
  | 16 => ("FeedModulusModel", "depth", "I", false)
  | 17 => ("FeedModulusModel", "things", "I", false)
  | 18 => ("FeedModulusModel", "thingAcross", "[I", true)
  | 19 => ("FeedModulusModel", "thingFrom", "[I", true)
  | 20 => ("FeedModulusModel", "thingWide", "[I", true)
  | _ => ("FeedModulusModel", "thingDeep", "[I", true)
def tyD : Nat → FieldType := fun k => match k with
  | 0 => .int
  | 1 => .int
  | 2 => .array .boolean
  | 3 => .array .int
  | 4 => .array .int
  | 5 => .array .int
  | 6 => .array .int
  | 7 => .array .int
  | 8 => .array .int
  | 9 => .int
  | 10 => .array .int
  | 11 => .array .int
  | 12 => .int
  | 13 => .array .int
  | 14 => .array .int
  | 15 => .int
  | 16 => .int
  | 17 => .int
  | 18 => .array .int
  | 19 => .array .int
  | 20 => .array .int
  | _ => .array .int
theorem nokD : ∀ a, a < 22 → ∀ b, b < 22 → a ≠ b → (TD a).2.1 ≠ (TD b).2.1 := by decide +kernel
theorem tokD : ∀ k, k < 22 → parseFieldDescriptor (TD k).2.2.1 = some (tyD k) := by decide +kernel
def RL : String := "FeedModulusLaw"
def RJ : String := "java/lang/Long"
abbrev vwCl : List vw_C := [(RX, TX, 4), (RP, TP, 8), (RR, TR, 3), (RF, TF, 3), (RM, TM, 10), (RD, TD, 22)]
abbrev cX_init : ByteArray := prog_1_method_1_code
def yX_init : MethodName := ⟨RX, "<init>", "()V"⟩
abbrev cX_box : ByteArray := prog_1_method_2_code
def yX_box : MethodName := ⟨RX, "box", "(III)I"⟩
abbrev cX_cylinder : ByteArray := prog_1_method_3_code
def yX_cylinder : MethodName := ⟨RX, "cylinder", "(II)I"⟩
abbrev cX_face : ByteArray := prog_1_method_4_code
def yX_face : MethodName := ⟨RX, "face", "(III)V"⟩
abbrev cX_modulus : ByteArray := prog_1_method_5_code
def yX_modulus : MethodName := ⟨RX, "modulus", "(II)J"⟩
abbrev cX_join : ByteArray := prog_1_method_6_code
def yX_join : MethodName := ⟨RX, "join", "(IIZ)V"⟩
abbrev cX_order : ByteArray := prog_1_method_7_code
def yX_order : MethodName := ⟨RX, "order", "(I)I"⟩
abbrev cX_riserRow : ByteArray := prog_1_method_8_code
def yX_riserRow : MethodName := ⟨RX, "riserRow", "(II)I"⟩
abbrev cX_riser : ByteArray := prog_1_method_9_code
def yX_riser : MethodName := ⟨RX, "riser", "(I)I"⟩
abbrev cX_cutOff : ByteArray := prog_1_method_10_code
def yX_cutOff : MethodName := ⟨RX, "cutOff", "(I)V"⟩
abbrev cX_feeder : ByteArray := prog_1_method_11_code
def yX_feeder : MethodName := ⟨RX, "feeder", "(I)I"⟩
abbrev cX_unfed : ByteArray := prog_1_method_12_code
def yX_unfed : MethodName := ⟨RX, "unfed", "(I)I"⟩
abbrev cX_flowRow : ByteArray := prog_1_method_13_code
def yX_flowRow : MethodName := ⟨RX, "flowRow", "(II)I"⟩
abbrev cX_flow : ByteArray := prog_1_method_14_code
def yX_flow : MethodName := ⟨RX, "flow", "(I)I"⟩
abbrev cX_gate : ByteArray := prog_1_method_15_code
def yX_gate : MethodName := ⟨RX, "gate", "(I)I"⟩
abbrev cX_pattern : ByteArray := prog_1_method_16_code
def yX_pattern : MethodName := ⟨RX, "pattern", "(II)I"⟩
abbrev cX_molding : ByteArray := prog_1_method_17_code
def yX_molding : MethodName := ⟨RX, "molding", "(II)V"⟩
abbrev cX_pack : ByteArray := prog_1_method_18_code
def yX_pack : MethodName := ⟨RX, "pack", "(II)I"⟩
abbrev cX_packed : ByteArray := prog_1_method_19_code
def yX_packed : MethodName := ⟨RX, "packed", "(II)I"⟩
abbrev cX_whatFeeds : ByteArray := prog_1_method_20_code
def yX_whatFeeds : MethodName := ⟨RX, "whatFeeds", "(I)I"⟩
abbrev cX_requirePart : ByteArray := prog_1_method_21_code
def yX_requirePart : MethodName := ⟨RX, "requirePart", "(I)V"⟩
abbrev cX_requireRoomForPart : ByteArray := prog_1_method_22_code
def yX_requireRoomForPart : MethodName := ⟨RX, "requireRoomForPart", "()V"⟩
abbrev cX_requireTold : ByteArray := prog_1_method_23_code
def yX_requireTold : MethodName := ⟨RX, "requireTold", "(I)V"⟩
abbrev cX_requireFlowRows : ByteArray := prog_1_method_24_code
def yX_requireFlowRows : MethodName := ⟨RX, "requireFlowRows", "()V"⟩
abbrev cX_requireNotBelowZero : ByteArray := prog_1_method_25_code
def yX_requireNotBelowZero : MethodName := ⟨RX, "requireNotBelowZero", "(I)V"⟩
abbrev cX_requireSize : ByteArray := prog_1_method_26_code
def yX_requireSize : MethodName := ⟨RX, "requireSize", "(I)V"⟩
abbrev cX_requireOpening : ByteArray := prog_1_method_27_code
def yX_requireOpening : MethodName := ⟨RX, "requireOpening", "(I)V"⟩
abbrev cX_requireFlow : ByteArray := prog_1_method_28_code
def yX_requireFlow : MethodName := ⟨RX, "requireFlow", "(I)V"⟩
abbrev cX_requireMoldingSize : ByteArray := prog_1_method_29_code
def yX_requireMoldingSize : MethodName := ⟨RX, "requireMoldingSize", "(I)V"⟩
abbrev cX_inLowestTerms : ByteArray := prog_1_method_30_code
def yX_inLowestTerms : MethodName := ⟨RX, "inLowestTerms", "(JJI)J"⟩
abbrev cX_greatestDivisor : ByteArray := prog_1_method_31_code
def yX_greatestDivisor : MethodName := ⟨RX, "greatestDivisor", "(JJ)J"⟩
abbrev cD_init : ByteArray := prog_7_method_1_code
def yD_init : MethodName := ⟨RD, "<init>", "()V"⟩
abbrev cD_thrown : ByteArray := prog_7_method_2_code
def yD_thrown : MethodName := ⟨RD, "thrown", "()I"⟩
abbrev cD_throwing : ByteArray := prog_7_method_3_code
def yD_throwing : MethodName := ⟨RD, "throwing", "(ZZZ)Z"⟩
abbrev cD_in : ByteArray := prog_7_method_4_code
def yD_in : MethodName := ⟨RD, "in", "(III)Z"⟩
abbrev cD_isSize : ByteArray := prog_7_method_5_code
def yD_isSize : MethodName := ⟨RD, "isSize", "(I)Z"⟩
abbrev cD_isPart : ByteArray := prog_7_method_6_code
def yD_isPart : MethodName := ⟨RD, "isPart", "(I)Z"⟩
abbrev cD_add : ByteArray := prog_7_method_7_code
def yD_add : MethodName := ⟨RD, "add", "(ZIII)I"⟩
abbrev cD_box : ByteArray := prog_7_method_8_code
def yD_box : MethodName := ⟨RD, "box", "(III)I"⟩
abbrev cD_cylinder : ByteArray := prog_7_method_9_code
def yD_cylinder : MethodName := ⟨RD, "cylinder", "(II)I"⟩
abbrev cD_face : ByteArray := prog_7_method_10_code
def yD_face : MethodName := ⟨RD, "face", "(III)V"⟩
abbrev cD_upOf : ByteArray := prog_7_method_11_code
def yD_upOf : MethodName := ⟨RD, "upOf", "(I)J"⟩
abbrev cD_faces : ByteArray := prog_7_method_12_code
def yD_faces : MethodName := ⟨RD, "faces", "(II)I"⟩
abbrev cD_lowOf : ByteArray := prog_7_method_13_code
def yD_lowOf : MethodName := ⟨RD, "lowOf", "(I)J"⟩
abbrev cD_modulus : ByteArray := prog_7_method_14_code
def yD_modulus : MethodName := ⟨RD, "modulus", "(II)J"⟩
abbrev cD_compare : ByteArray := prog_7_method_15_code
def yD_compare : MethodName := ⟨RD, "compare", "(II)J"⟩
abbrev cD_isTold : ByteArray := prog_7_method_16_code
def yD_isTold : MethodName := ⟨RD, "isTold", "(I)Z"⟩
abbrev cD_join : ByteArray := prog_7_method_17_code
def yD_join : MethodName := ⟨RD, "join", "(IIZ)V"⟩
abbrev cD_order : ByteArray := prog_7_method_18_code
def yD_order : MethodName := ⟨RD, "order", "(I)I"⟩
abbrev cD_riserRow : ByteArray := prog_7_method_19_code
def yD_riserRow : MethodName := ⟨RD, "riserRow", "(II)I"⟩
abbrev cD_rowFor : ByteArray := prog_7_method_20_code
def yD_rowFor : MethodName := ⟨RD, "rowFor", "(I)I"⟩
abbrev cD_riser : ByteArray := prog_7_method_21_code
def yD_riser : MethodName := ⟨RD, "riser", "(I)I"⟩
abbrev cD_cutOff : ByteArray := prog_7_method_22_code
def yD_cutOff : MethodName := ⟨RD, "cutOff", "(I)V"⟩
abbrev cD_feederOf : ByteArray := prog_7_method_23_code
def yD_feederOf : MethodName := ⟨RD, "feederOf", "(I)I"⟩
abbrev cD_feeder : ByteArray := prog_7_method_24_code
def yD_feeder : MethodName := ⟨RD, "feeder", "(I)I"⟩
abbrev cD_unfed : ByteArray := prog_7_method_25_code
def yD_unfed : MethodName := ⟨RD, "unfed", "(I)I"⟩
abbrev cD_flowRow : ByteArray := prog_7_method_26_code
def yD_flowRow : MethodName := ⟨RD, "flowRow", "(II)I"⟩
abbrev cD_flowAt : ByteArray := prog_7_method_27_code
def yD_flowAt : MethodName := ⟨RD, "flowAt", "(I)I"⟩
abbrev cD_flow : ByteArray := prog_7_method_28_code
def yD_flow : MethodName := ⟨RD, "flow", "(I)I"⟩
abbrev cD_gate : ByteArray := prog_7_method_29_code
def yD_gate : MethodName := ⟨RD, "gate", "(I)I"⟩
abbrev cD_pattern : ByteArray := prog_7_method_30_code
def yD_pattern : MethodName := ⟨RD, "pattern", "(II)I"⟩
abbrev cD_isWide : ByteArray := prog_7_method_31_code
def yD_isWide : MethodName := ⟨RD, "isWide", "(I)Z"⟩
abbrev cD_molding : ByteArray := prog_7_method_32_code
def yD_molding : MethodName := ⟨RD, "molding", "(II)V"⟩
abbrev cD_taken : ByteArray := prog_7_method_33_code
def yD_taken : MethodName := ⟨RD, "taken", "(I)I"⟩
abbrev cD_shelfFor : ByteArray := prog_7_method_34_code
def yD_shelfFor : MethodName := ⟨RD, "shelfFor", "(II)I"⟩
abbrev cD_shelvesEnd : ByteArray := prog_7_method_35_code
def yD_shelvesEnd : MethodName := ⟨RD, "shelvesEnd", "()I"⟩
abbrev cD_pack : ByteArray := prog_7_method_36_code
def yD_pack : MethodName := ⟨RD, "pack", "(II)I"⟩
abbrev cD_packed : ByteArray := prog_7_method_37_code
def yD_packed : MethodName := ⟨RD, "packed", "(II)I"⟩
abbrev cF_init : ByteArray := prog_2_method_1_code
def yF_init : MethodName := ⟨RF, "<init>", "()V"⟩
abbrev cF_isFull : ByteArray := prog_2_method_2_code
def yF_isFull : MethodName := ⟨RF, "isFull", "()Z"⟩
abbrev cF_isEmpty : ByteArray := prog_2_method_3_code
def yF_isEmpty : MethodName := ⟨RF, "isEmpty", "()Z"⟩
abbrev cF_mayFollow : ByteArray := prog_2_method_4_code
def yF_mayFollow : MethodName := ⟨RF, "mayFollow", "(II)Z"⟩
abbrev cF_addRow : ByteArray := prog_2_method_5_code
def yF_addRow : MethodName := ⟨RF, "addRow", "(II)I"⟩
abbrev cF_flowAt : ByteArray := prog_2_method_6_code
def yF_flowAt : MethodName := ⟨RF, "flowAt", "(I)I"⟩
abbrev cF_flowBetween : ByteArray := prog_2_method_7_code
def yF_flowBetween : MethodName := ⟨RF, "flowBetween", "(III)I"⟩
abbrev cF_leastOpeningFor : ByteArray := prog_2_method_8_code
def yF_leastOpeningFor : MethodName := ⟨RF, "leastOpeningFor", "(I)I"⟩
abbrev cM_init : ByteArray := prog_3_method_1_code
def yM_init : MethodName := ⟨RM, "<init>", "()V"⟩
abbrev cM_clearTo : ByteArray := prog_3_method_2_code
def yM_clearTo : MethodName := ⟨RM, "clearTo", "(II)V"⟩
abbrev cM_isFull : ByteArray := prog_3_method_3_code
def yM_isFull : MethodName := ⟨RM, "isFull", "()Z"⟩
abbrev cM_hasThing : ByteArray := prog_3_method_4_code
def yM_hasThing : MethodName := ⟨RM, "hasThing", "(I)Z"⟩
abbrev cM_shelfFor : ByteArray := prog_3_method_5_code
def yM_shelfFor : MethodName := ⟨RM, "shelfFor", "(II)I"⟩
abbrev cM_putOn : ByteArray := prog_3_method_6_code
def yM_putOn : MethodName := ⟨RM, "putOn", "(III)I"⟩
abbrev cM_openShelf : ByteArray := prog_3_method_7_code
def yM_openShelf : MethodName := ⟨RM, "openShelf", "(I)V"⟩
abbrev cM_alongWidth : ByteArray := prog_3_method_8_code
def yM_alongWidth : MethodName := ⟨RM, "alongWidth", "(I)I"⟩
abbrev cM_alongDepth : ByteArray := prog_3_method_9_code
def yM_alongDepth : MethodName := ⟨RM, "alongDepth", "(I)I"⟩
abbrev cP_init : ByteArray := prog_4_method_1_code
def yP_init : MethodName := ⟨RP, "<init>", "()V"⟩
abbrev cP_count : ByteArray := prog_4_method_2_code
def yP_count : MethodName := ⟨RP, "count", "()I"⟩
abbrev cP_isFull : ByteArray := prog_4_method_3_code
def yP_isFull : MethodName := ⟨RP, "isFull", "()Z"⟩
abbrev cP_has : ByteArray := prog_4_method_4_code
def yP_has : MethodName := ⟨RP, "has", "(I)Z"⟩
abbrev cP_hasFace : ByteArray := prog_4_method_5_code
def yP_hasFace : MethodName := ⟨RP, "hasFace", "(II)Z"⟩
abbrev cP_addBox : ByteArray := prog_4_method_6_code
def yP_addBox : MethodName := ⟨RP, "addBox", "(III)I"⟩
abbrev cP_addCylinder : ByteArray := prog_4_method_7_code
def yP_addCylinder : MethodName := ⟨RP, "addCylinder", "(II)I"⟩
abbrev cP_open : ByteArray := prog_4_method_8_code
def yP_open : MethodName := ⟨RP, "open", "(IJ)I"⟩
abbrev cP_addFace : ByteArray := prog_4_method_9_code
def yP_addFace : MethodName := ⟨RP, "addFace", "(III)V"⟩
abbrev cP_setTimes : ByteArray := prog_4_method_10_code
def yP_setTimes : MethodName := ⟨RP, "setTimes", "(III)V"⟩
abbrev cP_upper : ByteArray := prog_4_method_11_code
def yP_upper : MethodName := ⟨RP, "upper", "(I)J"⟩
abbrev cP_lower : ByteArray := prog_4_method_12_code
def yP_lower : MethodName := ⟨RP, "lower", "(I)J"⟩
abbrev cP_isTold : ByteArray := prog_4_method_13_code
def yP_isTold : MethodName := ⟨RP, "isTold", "(I)Z"⟩
abbrev cP_areJoined : ByteArray := prog_4_method_14_code
def yP_areJoined : MethodName := ⟨RP, "areJoined", "(II)Z"⟩
abbrev cP_setJoined : ByteArray := prog_4_method_15_code
def yP_setJoined : MethodName := ⟨RP, "setJoined", "(IIZ)V"⟩
abbrev cP_riserOf : ByteArray := prog_4_method_16_code
def yP_riserOf : MethodName := ⟨RP, "riserOf", "(I)I"⟩
abbrev cP_setRiser : ByteArray := prog_4_method_17_code
def yP_setRiser : MethodName := ⟨RP, "setRiser", "(II)V"⟩
abbrev cP_compare : ByteArray := prog_4_method_18_code
def yP_compare : MethodName := ⟨RP, "compare", "(II)I"⟩
abbrev cP_solidBefore : ByteArray := prog_4_method_19_code
def yP_solidBefore : MethodName := ⟨RP, "solidBefore", "(I)I"⟩
abbrev cP_isEarlier : ByteArray := prog_4_method_20_code
def yP_isEarlier : MethodName := ⟨RP, "isEarlier", "(II)Z"⟩
abbrev cP_greatestNeighbour : ByteArray := prog_4_method_21_code
def yP_greatestNeighbour : MethodName := ⟨RP, "greatestNeighbour", "(I)I"⟩
abbrev cR_init : ByteArray := prog_5_method_1_code
def yR_init : MethodName := ⟨RR, "<init>", "()V"⟩
abbrev cR_isFull : ByteArray := prog_5_method_2_code
def yR_isFull : MethodName := ⟨RR, "isFull", "()Z"⟩
abbrev cR_addRow : ByteArray := prog_5_method_3_code
def yR_addRow : MethodName := ⟨RR, "addRow", "(II)I"⟩
abbrev cR_firstFor : ByteArray := prog_5_method_4_code
def yR_firstFor : MethodName := ⟨RR, "firstFor", "(JJ)I"⟩
abbrev cL_box : ByteArray := method_3_code
def yL_box : MethodName := ⟨RL, "box", "(LFeedModulus;III[J)I"⟩
abbrev cL_cylinder : ByteArray := method_4_code
def yL_cylinder : MethodName := ⟨RL, "cylinder", "(LFeedModulus;II[J)I"⟩
abbrev cL_face : ByteArray := method_5_code
def yL_face : MethodName := ⟨RL, "face", "(LFeedModulus;III)I"⟩
abbrev cL_modulus : ByteArray := method_6_code
def yL_modulus : MethodName := ⟨RL, "modulus", "(LFeedModulus;II[J)I"⟩
abbrev cL_join : ByteArray := method_7_code
def yL_join : MethodName := ⟨RL, "join", "(LFeedModulus;IIZ)I"⟩
abbrev cL_order : ByteArray := method_8_code
def yL_order : MethodName := ⟨RL, "order", "(LFeedModulus;I[J)I"⟩
abbrev cL_riserRow : ByteArray := method_9_code
def yL_riserRow : MethodName := ⟨RL, "riserRow", "(LFeedModulus;II[J)I"⟩
abbrev cL_riser : ByteArray := method_10_code
def yL_riser : MethodName := ⟨RL, "riser", "(LFeedModulus;I[J)I"⟩
abbrev cL_cutOff : ByteArray := method_11_code
def yL_cutOff : MethodName := ⟨RL, "cutOff", "(LFeedModulus;I)I"⟩
abbrev cL_feeder : ByteArray := method_12_code
def yL_feeder : MethodName := ⟨RL, "feeder", "(LFeedModulus;I[J)I"⟩
abbrev cL_unfed : ByteArray := method_13_code
def yL_unfed : MethodName := ⟨RL, "unfed", "(LFeedModulus;I[J)I"⟩
abbrev cL_flowRow : ByteArray := method_14_code
def yL_flowRow : MethodName := ⟨RL, "flowRow", "(LFeedModulus;II[J)I"⟩
abbrev cL_flow : ByteArray := method_15_code
def yL_flow : MethodName := ⟨RL, "flow", "(LFeedModulus;I[J)I"⟩
abbrev cL_gate : ByteArray := method_16_code
def yL_gate : MethodName := ⟨RL, "gate", "(LFeedModulus;I[J)I"⟩
abbrev cL_pattern : ByteArray := method_17_code
def yL_pattern : MethodName := ⟨RL, "pattern", "(LFeedModulus;II[J)I"⟩
abbrev cL_molding : ByteArray := method_18_code
def yL_molding : MethodName := ⟨RL, "molding", "(LFeedModulus;II)I"⟩
abbrev cL_pack : ByteArray := method_19_code
def yL_pack : MethodName := ⟨RL, "pack", "(LFeedModulus;II[J)I"⟩
abbrev cL_packed : ByteArray := method_20_code
def yL_packed : MethodName := ⟨RL, "packed", "(LFeedModulus;II[J)I"⟩
abbrev cL_law : ByteArray := code
def yL_law : MethodName := ⟨RL, "law", "([I)Z"⟩
abbrev cJ_compare : ByteArray := prog_12_method_42_code
def yJ_compare : MethodName := ⟨RJ, "compare", "(JJ)I"⟩
theorem dP_init_0 : decode cP_init 0 = .ok (.aload_n 0, 1) := by decide +kernel
theorem dP_init_1 : decode cP_init 1 = .ok (.invokespecial 3, 3) := by decide +kernel
theorem dP_init_4 : decode cP_init 4 = .ok (.aload_n 0, 1) := by decide +kernel
theorem dP_init_5 : decode cP_init 5 = .ok (.bipush 12, 2) := by decide +kernel
theorem dP_init_7 : decode cP_init 7 = .ok (.newarray .long, 2) := by decide +kernel
theorem dP_init_9 : decode cP_init 9 = .ok (.putfield 9, 3) := by decide +kernel
theorem dP_init_12 : decode cP_init 12 = .ok (.aload_n 0, 1) := by decide +kernel
theorem dP_init_13 : decode cP_init 13 = .ok (.bipush 12, 2) := by decide +kernel
theorem dP_init_15 : decode cP_init 15 = .ok (.newarray .long, 2) := by decide +kernel
theorem dP_init_17 : decode cP_init 17 = .ok (.putfield 15, 3) := by decide +kernel
theorem dP_init_20 : decode cP_init 20 = .ok (.aload_n 0, 1) := by decide +kernel
theorem dP_init_21 : decode cP_init 21 = .ok (.bipush 12, 2) := by decide +kernel
theorem dP_init_23 : decode cP_init 23 = .ok (.newarray .int, 2) := by decide +kernel
theorem dP_init_25 : decode cP_init 25 = .ok (.putfield 18, 3) := by decide +kernel
theorem dP_init_28 : decode cP_init 28 = .ok (.aload_n 0, 1) := by decide +kernel
theorem dP_init_29 : decode cP_init 29 = .ok (.bipush 72, 2) := by decide +kernel
theorem dP_init_31 : decode cP_init 31 = .ok (.newarray .int, 2) := by decide +kernel
theorem dP_init_33 : decode cP_init 33 = .ok (.putfield 22, 3) := by decide +kernel
theorem dP_init_36 : decode cP_init 36 = .ok (.aload_n 0, 1) := by decide +kernel
theorem dP_init_37 : decode cP_init 37 = .ok (.bipush 72, 2) := by decide +kernel
theorem dP_init_39 : decode cP_init 39 = .ok (.newarray .int, 2) := by decide +kernel
theorem dP_init_41 : decode cP_init 41 = .ok (.putfield 25, 3) := by decide +kernel
theorem dP_init_44 : decode cP_init 44 = .ok (.aload_n 0, 1) := by decide +kernel
theorem dP_init_45 : decode cP_init 45 = .ok (.bipush 12, 2) := by decide +kernel
theorem dP_init_47 : decode cP_init 47 = .ok (.newarray .int, 2) := by decide +kernel
theorem dP_init_49 : decode cP_init 49 = .ok (.putfield 28, 3) := by decide +kernel
theorem dP_init_52 : decode cP_init 52 = .ok (.aload_n 0, 1) := by decide +kernel
theorem dP_init_53 : decode cP_init 53 = .ok (.sipush 144, 3) := by decide +kernel
theorem dP_init_56 : decode cP_init 56 = .ok (.newarray .boolean, 2) := by decide +kernel
theorem dP_init_58 : decode cP_init 58 = .ok (.putfield 31, 3) := by decide +kernel
theorem dP_init_61 : decode cP_init 61 = .ok (.return_, 1) := by decide +kernel
theorem dP_count_0 : decode cP_count 0 = .ok (.aload_n 0, 1) := by decide +kernel
theorem dP_count_1 : decode cP_count 1 = .ok (.getfield 35, 3) := by decide +kernel
theorem dP_count_4 : decode cP_count 4 = .ok (.ireturn, 1) := by decide +kernel
theorem dP_isFull_0 : decode cP_isFull 0 = .ok (.aload_n 0, 1) := by decide +kernel
theorem dP_isFull_1 : decode cP_isFull 1 = .ok (.getfield 35, 3) := by decide +kernel
theorem dP_isFull_4 : decode cP_isFull 4 = .ok (.bipush 12, 2) := by decide +kernel
theorem dP_isFull_6 : decode cP_isFull 6 = .ok (.if_icmp .lt 7, 3) := by decide +kernel
theorem dP_isFull_9 : decode cP_isFull 9 = .ok (.iconst 1, 1) := by decide +kernel
theorem dP_isFull_10 : decode cP_isFull 10 = .ok (.goto 4, 3) := by decide +kernel
theorem dP_isFull_13 : decode cP_isFull 13 = .ok (.iconst 0, 1) := by decide +kernel
theorem dP_isFull_14 : decode cP_isFull 14 = .ok (.ireturn, 1) := by decide +kernel
theorem dP_has_0 : decode cP_has 0 = .ok (.iload_n 1, 1) := by decide +kernel
theorem dP_has_1 : decode cP_has 1 = .ok (.ifCond .lt 15, 3) := by decide +kernel
theorem dP_has_4 : decode cP_has 4 = .ok (.iload_n 1, 1) := by decide +kernel
theorem dP_has_5 : decode cP_has 5 = .ok (.aload_n 0, 1) := by decide +kernel
theorem dP_has_6 : decode cP_has 6 = .ok (.getfield 35, 3) := by decide +kernel
theorem dP_has_9 : decode cP_has 9 = .ok (.if_icmp .ge 7, 3) := by decide +kernel
theorem dP_has_12 : decode cP_has 12 = .ok (.iconst 1, 1) := by decide +kernel
theorem dP_has_13 : decode cP_has 13 = .ok (.goto 4, 3) := by decide +kernel
theorem dP_has_16 : decode cP_has 16 = .ok (.iconst 0, 1) := by decide +kernel
theorem dP_has_17 : decode cP_has 17 = .ok (.ireturn, 1) := by decide +kernel
theorem dP_hasFace_0 : decode cP_hasFace 0 = .ok (.iload_n 2, 1) := by decide +kernel
theorem dP_hasFace_1 : decode cP_hasFace 1 = .ok (.ifCond .lt 17, 3) := by decide +kernel
theorem dP_hasFace_4 : decode cP_hasFace 4 = .ok (.iload_n 2, 1) := by decide +kernel
theorem dP_hasFace_5 : decode cP_hasFace 5 = .ok (.aload_n 0, 1) := by decide +kernel
theorem dP_hasFace_6 : decode cP_hasFace 6 = .ok (.getfield 18, 3) := by decide +kernel
theorem dP_hasFace_9 : decode cP_hasFace 9 = .ok (.iload_n 1, 1) := by decide +kernel
theorem dP_hasFace_10 : decode cP_hasFace 10 = .ok (.iaload, 1) := by decide +kernel
theorem dP_hasFace_11 : decode cP_hasFace 11 = .ok (.if_icmp .ge 7, 3) := by decide +kernel
theorem dP_hasFace_14 : decode cP_hasFace 14 = .ok (.iconst 1, 1) := by decide +kernel
theorem dP_hasFace_15 : decode cP_hasFace 15 = .ok (.goto 4, 3) := by decide +kernel
theorem dP_hasFace_18 : decode cP_hasFace 18 = .ok (.iconst 0, 1) := by decide +kernel
theorem dP_hasFace_19 : decode cP_hasFace 19 = .ok (.ireturn, 1) := by decide +kernel
theorem dP_addBox_0 : decode cP_addBox 0 = .ok (.aload_n 0, 1) := by decide +kernel
theorem dP_addBox_1 : decode cP_addBox 1 = .ok (.bipush 6, 2) := by decide +kernel
theorem dP_addBox_3 : decode cP_addBox 3 = .ok (.iload_n 1, 1) := by decide +kernel
theorem dP_addBox_4 : decode cP_addBox 4 = .ok (.i2l, 1) := by decide +kernel
theorem dP_addBox_5 : decode cP_addBox 5 = .ok (.iload_n 2, 1) := by decide +kernel
theorem dP_addBox_6 : decode cP_addBox 6 = .ok (.i2l, 1) := by decide +kernel
theorem dP_addBox_7 : decode cP_addBox 7 = .ok (.lmul, 1) := by decide +kernel
theorem dP_addBox_8 : decode cP_addBox 8 = .ok (.iload_n 3, 1) := by decide +kernel
theorem dP_addBox_9 : decode cP_addBox 9 = .ok (.i2l, 1) := by decide +kernel
theorem dP_addBox_10 : decode cP_addBox 10 = .ok (.lmul, 1) := by decide +kernel
theorem dP_addBox_11 : decode cP_addBox 11 = .ok (.invokevirtual 39, 3) := by decide +kernel
theorem dP_addBox_14 : decode cP_addBox 14 = .ok (.istore 4, 2) := by decide +kernel
theorem dP_addBox_16 : decode cP_addBox 16 = .ok (.aload_n 0, 1) := by decide +kernel
theorem dP_addBox_17 : decode cP_addBox 17 = .ok (.iload 4, 2) := by decide +kernel
theorem dP_addBox_19 : decode cP_addBox 19 = .ok (.iconst 0, 1) := by decide +kernel
theorem dP_addBox_20 : decode cP_addBox 20 = .ok (.iload_n 2, 1) := by decide +kernel
theorem dP_addBox_21 : decode cP_addBox 21 = .ok (.iload_n 3, 1) := by decide +kernel
theorem dP_addBox_22 : decode cP_addBox 22 = .ok (.imul, 1) := by decide +kernel
theorem dP_addBox_23 : decode cP_addBox 23 = .ok (.invokevirtual 43, 3) := by decide +kernel
theorem dP_addBox_26 : decode cP_addBox 26 = .ok (.aload_n 0, 1) := by decide +kernel
theorem dP_addBox_27 : decode cP_addBox 27 = .ok (.iload 4, 2) := by decide +kernel
theorem dP_addBox_29 : decode cP_addBox 29 = .ok (.iconst 1, 1) := by decide +kernel
theorem dP_addBox_30 : decode cP_addBox 30 = .ok (.iload_n 2, 1) := by decide +kernel
theorem dP_addBox_31 : decode cP_addBox 31 = .ok (.iload_n 3, 1) := by decide +kernel
theorem dP_addBox_32 : decode cP_addBox 32 = .ok (.imul, 1) := by decide +kernel
theorem dP_addBox_33 : decode cP_addBox 33 = .ok (.invokevirtual 43, 3) := by decide +kernel
theorem dP_addBox_36 : decode cP_addBox 36 = .ok (.aload_n 0, 1) := by decide +kernel
theorem dP_addBox_37 : decode cP_addBox 37 = .ok (.iload 4, 2) := by decide +kernel
theorem dP_addBox_39 : decode cP_addBox 39 = .ok (.iconst 2, 1) := by decide +kernel
theorem dP_addBox_40 : decode cP_addBox 40 = .ok (.iload_n 1, 1) := by decide +kernel
theorem dP_addBox_41 : decode cP_addBox 41 = .ok (.iload_n 3, 1) := by decide +kernel
theorem dP_addBox_42 : decode cP_addBox 42 = .ok (.imul, 1) := by decide +kernel
theorem dP_addBox_43 : decode cP_addBox 43 = .ok (.invokevirtual 43, 3) := by decide +kernel
theorem dP_addBox_46 : decode cP_addBox 46 = .ok (.aload_n 0, 1) := by decide +kernel
theorem dP_addBox_47 : decode cP_addBox 47 = .ok (.iload 4, 2) := by decide +kernel
theorem dP_addBox_49 : decode cP_addBox 49 = .ok (.iconst 3, 1) := by decide +kernel
theorem dP_addBox_50 : decode cP_addBox 50 = .ok (.iload_n 1, 1) := by decide +kernel
theorem dP_addBox_51 : decode cP_addBox 51 = .ok (.iload_n 3, 1) := by decide +kernel
theorem dP_addBox_52 : decode cP_addBox 52 = .ok (.imul, 1) := by decide +kernel
theorem dP_addBox_53 : decode cP_addBox 53 = .ok (.invokevirtual 43, 3) := by decide +kernel
theorem dP_addBox_56 : decode cP_addBox 56 = .ok (.aload_n 0, 1) := by decide +kernel
theorem dP_addBox_57 : decode cP_addBox 57 = .ok (.iload 4, 2) := by decide +kernel
theorem dP_addBox_59 : decode cP_addBox 59 = .ok (.iconst 4, 1) := by decide +kernel
theorem dP_addBox_60 : decode cP_addBox 60 = .ok (.iload_n 1, 1) := by decide +kernel
theorem dP_addBox_61 : decode cP_addBox 61 = .ok (.iload_n 2, 1) := by decide +kernel
theorem dP_addBox_62 : decode cP_addBox 62 = .ok (.imul, 1) := by decide +kernel
theorem dP_addBox_63 : decode cP_addBox 63 = .ok (.invokevirtual 43, 3) := by decide +kernel
theorem dP_addBox_66 : decode cP_addBox 66 = .ok (.aload_n 0, 1) := by decide +kernel
theorem dP_addBox_67 : decode cP_addBox 67 = .ok (.iload 4, 2) := by decide +kernel
theorem dP_addBox_69 : decode cP_addBox 69 = .ok (.iconst 5, 1) := by decide +kernel
theorem dP_addBox_70 : decode cP_addBox 70 = .ok (.iload_n 1, 1) := by decide +kernel
theorem dP_addBox_71 : decode cP_addBox 71 = .ok (.iload_n 2, 1) := by decide +kernel
theorem dP_addBox_72 : decode cP_addBox 72 = .ok (.imul, 1) := by decide +kernel
theorem dP_addBox_73 : decode cP_addBox 73 = .ok (.invokevirtual 43, 3) := by decide +kernel
theorem dP_addBox_76 : decode cP_addBox 76 = .ok (.iload 4, 2) := by decide +kernel
theorem dP_addBox_78 : decode cP_addBox 78 = .ok (.ireturn, 1) := by decide +kernel
theorem dP_addCylinder_0 : decode cP_addCylinder 0 = .ok (.aload_n 0, 1) := by decide +kernel
theorem dP_addCylinder_1 : decode cP_addCylinder 1 = .ok (.iconst 3, 1) := by decide +kernel
theorem dP_addCylinder_2 : decode cP_addCylinder 2 = .ok (.iload_n 1, 1) := by decide +kernel
theorem dP_addCylinder_3 : decode cP_addCylinder 3 = .ok (.i2l, 1) := by decide +kernel
theorem dP_addCylinder_4 : decode cP_addCylinder 4 = .ok (.iload_n 2, 1) := by decide +kernel
theorem dP_addCylinder_5 : decode cP_addCylinder 5 = .ok (.i2l, 1) := by decide +kernel
theorem dP_addCylinder_6 : decode cP_addCylinder 6 = .ok (.lmul, 1) := by decide +kernel
theorem dP_addCylinder_7 : decode cP_addCylinder 7 = .ok (.invokevirtual 39, 3) := by decide +kernel
theorem dP_addCylinder_10 : decode cP_addCylinder 10 = .ok (.istore_n 3, 1) := by decide +kernel
theorem dP_addCylinder_11 : decode cP_addCylinder 11 = .ok (.aload_n 0, 1) := by decide +kernel
theorem dP_addCylinder_12 : decode cP_addCylinder 12 = .ok (.iload_n 3, 1) := by decide +kernel
theorem dP_addCylinder_13 : decode cP_addCylinder 13 = .ok (.iconst 0, 1) := by decide +kernel
theorem dP_addCylinder_14 : decode cP_addCylinder 14 = .ok (.iconst 4, 1) := by decide +kernel
theorem dP_addCylinder_15 : decode cP_addCylinder 15 = .ok (.iload_n 2, 1) := by decide +kernel
theorem dP_addCylinder_16 : decode cP_addCylinder 16 = .ok (.imul, 1) := by decide +kernel
theorem dP_addCylinder_17 : decode cP_addCylinder 17 = .ok (.invokevirtual 43, 3) := by decide +kernel
theorem dP_addCylinder_20 : decode cP_addCylinder 20 = .ok (.aload_n 0, 1) := by decide +kernel
theorem dP_addCylinder_21 : decode cP_addCylinder 21 = .ok (.iload_n 3, 1) := by decide +kernel
theorem dP_addCylinder_22 : decode cP_addCylinder 22 = .ok (.iconst 1, 1) := by decide +kernel
theorem dP_addCylinder_23 : decode cP_addCylinder 23 = .ok (.iload_n 1, 1) := by decide +kernel
theorem dP_addCylinder_24 : decode cP_addCylinder 24 = .ok (.invokevirtual 43, 3) := by decide +kernel
theorem dP_addCylinder_27 : decode cP_addCylinder 27 = .ok (.aload_n 0, 1) := by decide +kernel
theorem dP_addCylinder_28 : decode cP_addCylinder 28 = .ok (.iload_n 3, 1) := by decide +kernel
theorem dP_addCylinder_29 : decode cP_addCylinder 29 = .ok (.iconst 2, 1) := by decide +kernel
theorem dP_addCylinder_30 : decode cP_addCylinder 30 = .ok (.iload_n 1, 1) := by decide +kernel
theorem dP_addCylinder_31 : decode cP_addCylinder 31 = .ok (.invokevirtual 43, 3) := by decide +kernel
theorem dP_addCylinder_34 : decode cP_addCylinder 34 = .ok (.iload_n 3, 1) := by decide +kernel
theorem dP_addCylinder_35 : decode cP_addCylinder 35 = .ok (.ireturn, 1) := by decide +kernel
theorem dP_open_0 : decode cP_open 0 = .ok (.aload_n 0, 1) := by decide +kernel
theorem dP_open_1 : decode cP_open 1 = .ok (.getfield 35, 3) := by decide +kernel
theorem dP_open_4 : decode cP_open 4 = .ok (.istore 4, 2) := by decide +kernel
theorem dP_open_6 : decode cP_open 6 = .ok (.aload_n 0, 1) := by decide +kernel
theorem dP_open_7 : decode cP_open 7 = .ok (.dup, 1) := by decide +kernel
theorem dP_open_8 : decode cP_open 8 = .ok (.getfield 35, 3) := by decide +kernel
theorem dP_open_11 : decode cP_open 11 = .ok (.iconst 1, 1) := by decide +kernel
theorem dP_open_12 : decode cP_open 12 = .ok (.iadd, 1) := by decide +kernel
theorem dP_open_13 : decode cP_open 13 = .ok (.putfield 35, 3) := by decide +kernel
theorem dP_open_16 : decode cP_open 16 = .ok (.aload_n 0, 1) := by decide +kernel
theorem dP_open_17 : decode cP_open 17 = .ok (.getfield 18, 3) := by decide +kernel
theorem dP_open_20 : decode cP_open 20 = .ok (.iload 4, 2) := by decide +kernel
theorem dP_open_22 : decode cP_open 22 = .ok (.iload_n 1, 1) := by decide +kernel
theorem dP_open_23 : decode cP_open 23 = .ok (.iastore, 1) := by decide +kernel
theorem dP_open_24 : decode cP_open 24 = .ok (.aload_n 0, 1) := by decide +kernel
theorem dP_open_25 : decode cP_open 25 = .ok (.getfield 9, 3) := by decide +kernel
theorem dP_open_28 : decode cP_open 28 = .ok (.iload 4, 2) := by decide +kernel
theorem dP_open_30 : decode cP_open 30 = .ok (.lload_n 2, 1) := by decide +kernel
theorem dP_open_31 : decode cP_open 31 = .ok (.lastore, 1) := by decide +kernel
theorem dP_open_32 : decode cP_open 32 = .ok (.aload_n 0, 1) := by decide +kernel
theorem dP_open_33 : decode cP_open 33 = .ok (.getfield 28, 3) := by decide +kernel
theorem dP_open_36 : decode cP_open 36 = .ok (.iload 4, 2) := by decide +kernel
theorem dP_open_38 : decode cP_open 38 = .ok (.iconst (-1), 1) := by decide +kernel
theorem dP_open_39 : decode cP_open 39 = .ok (.iastore, 1) := by decide +kernel
theorem dP_open_40 : decode cP_open 40 = .ok (.iload 4, 2) := by decide +kernel
theorem dP_open_42 : decode cP_open 42 = .ok (.ireturn, 1) := by decide +kernel
theorem dP_addFace_0 : decode cP_addFace 0 = .ok (.aload_n 0, 1) := by decide +kernel
theorem dP_addFace_1 : decode cP_addFace 1 = .ok (.getfield 22, 3) := by decide +kernel
theorem dP_addFace_4 : decode cP_addFace 4 = .ok (.iload_n 1, 1) := by decide +kernel
theorem dP_addFace_5 : decode cP_addFace 5 = .ok (.bipush 6, 2) := by decide +kernel
theorem dP_addFace_7 : decode cP_addFace 7 = .ok (.imul, 1) := by decide +kernel
theorem dP_addFace_8 : decode cP_addFace 8 = .ok (.iload_n 2, 1) := by decide +kernel
theorem dP_addFace_9 : decode cP_addFace 9 = .ok (.iadd, 1) := by decide +kernel
theorem dP_addFace_10 : decode cP_addFace 10 = .ok (.iload_n 3, 1) := by decide +kernel
theorem dP_addFace_11 : decode cP_addFace 11 = .ok (.iastore, 1) := by decide +kernel
theorem dP_addFace_12 : decode cP_addFace 12 = .ok (.aload_n 0, 1) := by decide +kernel
theorem dP_addFace_13 : decode cP_addFace 13 = .ok (.iload_n 1, 1) := by decide +kernel
theorem dP_addFace_14 : decode cP_addFace 14 = .ok (.iload_n 2, 1) := by decide +kernel
theorem dP_addFace_15 : decode cP_addFace 15 = .ok (.iconst 1, 1) := by decide +kernel
theorem dP_addFace_16 : decode cP_addFace 16 = .ok (.invokevirtual 47, 3) := by decide +kernel
theorem dP_addFace_19 : decode cP_addFace 19 = .ok (.return_, 1) := by decide +kernel
theorem dP_setTimes_0 : decode cP_setTimes 0 = .ok (.iload_n 1, 1) := by decide +kernel
theorem dP_setTimes_1 : decode cP_setTimes 1 = .ok (.bipush 6, 2) := by decide +kernel
theorem dP_setTimes_3 : decode cP_setTimes 3 = .ok (.imul, 1) := by decide +kernel
theorem dP_setTimes_4 : decode cP_setTimes 4 = .ok (.iload_n 2, 1) := by decide +kernel
theorem dP_setTimes_5 : decode cP_setTimes 5 = .ok (.iadd, 1) := by decide +kernel
theorem dP_setTimes_6 : decode cP_setTimes 6 = .ok (.istore 4, 2) := by decide +kernel
theorem dP_setTimes_8 : decode cP_setTimes 8 = .ok (.aload_n 0, 1) := by decide +kernel
theorem dP_setTimes_9 : decode cP_setTimes 9 = .ok (.getfield 15, 3) := by decide +kernel
theorem dP_setTimes_12 : decode cP_setTimes 12 = .ok (.iload_n 1, 1) := by decide +kernel
theorem dP_setTimes_13 : decode cP_setTimes 13 = .ok (.dup2, 1) := by decide +kernel
theorem dP_setTimes_14 : decode cP_setTimes 14 = .ok (.laload, 1) := by decide +kernel
theorem dP_setTimes_15 : decode cP_setTimes 15 = .ok (.aload_n 0, 1) := by decide +kernel
theorem dP_setTimes_16 : decode cP_setTimes 16 = .ok (.getfield 22, 3) := by decide +kernel
theorem dP_setTimes_19 : decode cP_setTimes 19 = .ok (.iload 4, 2) := by decide +kernel
theorem dP_setTimes_21 : decode cP_setTimes 21 = .ok (.iaload, 1) := by decide +kernel
theorem dP_setTimes_22 : decode cP_setTimes 22 = .ok (.i2l, 1) := by decide +kernel
theorem dP_setTimes_23 : decode cP_setTimes 23 = .ok (.iload_n 3, 1) := by decide +kernel
theorem dP_setTimes_24 : decode cP_setTimes 24 = .ok (.aload_n 0, 1) := by decide +kernel
theorem dP_setTimes_25 : decode cP_setTimes 25 = .ok (.getfield 25, 3) := by decide +kernel
theorem dP_setTimes_28 : decode cP_setTimes 28 = .ok (.iload 4, 2) := by decide +kernel
theorem dP_setTimes_30 : decode cP_setTimes 30 = .ok (.iaload, 1) := by decide +kernel
theorem dP_setTimes_31 : decode cP_setTimes 31 = .ok (.isub, 1) := by decide +kernel
theorem dP_setTimes_32 : decode cP_setTimes 32 = .ok (.i2l, 1) := by decide +kernel
theorem dP_setTimes_33 : decode cP_setTimes 33 = .ok (.lmul, 1) := by decide +kernel
theorem dP_setTimes_34 : decode cP_setTimes 34 = .ok (.ladd, 1) := by decide +kernel
theorem dP_setTimes_35 : decode cP_setTimes 35 = .ok (.lastore, 1) := by decide +kernel
theorem dP_setTimes_36 : decode cP_setTimes 36 = .ok (.aload_n 0, 1) := by decide +kernel
theorem dP_setTimes_37 : decode cP_setTimes 37 = .ok (.getfield 25, 3) := by decide +kernel
theorem dP_setTimes_40 : decode cP_setTimes 40 = .ok (.iload 4, 2) := by decide +kernel
theorem dP_setTimes_42 : decode cP_setTimes 42 = .ok (.iload_n 3, 1) := by decide +kernel
theorem dP_setTimes_43 : decode cP_setTimes 43 = .ok (.iastore, 1) := by decide +kernel
theorem dP_setTimes_44 : decode cP_setTimes 44 = .ok (.return_, 1) := by decide +kernel
theorem dP_upper_0 : decode cP_upper 0 = .ok (.aload_n 0, 1) := by decide +kernel
theorem dP_upper_1 : decode cP_upper 1 = .ok (.getfield 9, 3) := by decide +kernel
theorem dP_upper_4 : decode cP_upper 4 = .ok (.iload_n 1, 1) := by decide +kernel
theorem dP_upper_5 : decode cP_upper 5 = .ok (.laload, 1) := by decide +kernel
theorem dP_upper_6 : decode cP_upper 6 = .ok (.lreturn, 1) := by decide +kernel
theorem dP_lower_0 : decode cP_lower 0 = .ok (.aload_n 0, 1) := by decide +kernel
theorem dP_lower_1 : decode cP_lower 1 = .ok (.getfield 15, 3) := by decide +kernel
theorem dP_lower_4 : decode cP_lower 4 = .ok (.iload_n 1, 1) := by decide +kernel
theorem dP_lower_5 : decode cP_lower 5 = .ok (.laload, 1) := by decide +kernel
theorem dP_lower_6 : decode cP_lower 6 = .ok (.lreturn, 1) := by decide +kernel
theorem dP_isTold_0 : decode cP_isTold 0 = .ok (.aload_n 0, 1) := by decide +kernel
theorem dP_isTold_1 : decode cP_isTold 1 = .ok (.getfield 15, 3) := by decide +kernel
theorem dP_isTold_4 : decode cP_isTold 4 = .ok (.iload_n 1, 1) := by decide +kernel
theorem dP_isTold_5 : decode cP_isTold 5 = .ok (.laload, 1) := by decide +kernel
theorem dP_isTold_6 : decode cP_isTold 6 = .ok (.lconst 0, 1) := by decide +kernel
theorem dP_isTold_7 : decode cP_isTold 7 = .ok (.lcmp, 1) := by decide +kernel
theorem dP_isTold_8 : decode cP_isTold 8 = .ok (.ifCond .le 7, 3) := by decide +kernel
theorem dP_isTold_11 : decode cP_isTold 11 = .ok (.iconst 1, 1) := by decide +kernel
theorem dP_isTold_12 : decode cP_isTold 12 = .ok (.goto 4, 3) := by decide +kernel
theorem dP_isTold_15 : decode cP_isTold 15 = .ok (.iconst 0, 1) := by decide +kernel
theorem dP_isTold_16 : decode cP_isTold 16 = .ok (.ireturn, 1) := by decide +kernel
theorem dP_areJoined_0 : decode cP_areJoined 0 = .ok (.aload_n 0, 1) := by decide +kernel
theorem dP_areJoined_1 : decode cP_areJoined 1 = .ok (.getfield 31, 3) := by decide +kernel
theorem dP_areJoined_4 : decode cP_areJoined 4 = .ok (.iload_n 1, 1) := by decide +kernel
theorem dP_areJoined_5 : decode cP_areJoined 5 = .ok (.bipush 12, 2) := by decide +kernel
theorem dP_areJoined_7 : decode cP_areJoined 7 = .ok (.imul, 1) := by decide +kernel
theorem dP_areJoined_8 : decode cP_areJoined 8 = .ok (.iload_n 2, 1) := by decide +kernel
theorem dP_areJoined_9 : decode cP_areJoined 9 = .ok (.iadd, 1) := by decide +kernel
theorem dP_areJoined_10 : decode cP_areJoined 10 = .ok (.baload, 1) := by decide +kernel
theorem dP_areJoined_11 : decode cP_areJoined 11 = .ok (.ireturn, 1) := by decide +kernel
theorem dP_setJoined_0 : decode cP_setJoined 0 = .ok (.aload_n 0, 1) := by decide +kernel
theorem dP_setJoined_1 : decode cP_setJoined 1 = .ok (.getfield 31, 3) := by decide +kernel
theorem dP_setJoined_4 : decode cP_setJoined 4 = .ok (.iload_n 1, 1) := by decide +kernel
theorem dP_setJoined_5 : decode cP_setJoined 5 = .ok (.bipush 12, 2) := by decide +kernel
theorem dP_setJoined_7 : decode cP_setJoined 7 = .ok (.imul, 1) := by decide +kernel
theorem dP_setJoined_8 : decode cP_setJoined 8 = .ok (.iload_n 2, 1) := by decide +kernel
theorem dP_setJoined_9 : decode cP_setJoined 9 = .ok (.iadd, 1) := by decide +kernel
theorem dP_setJoined_10 : decode cP_setJoined 10 = .ok (.iload_n 3, 1) := by decide +kernel
theorem dP_setJoined_11 : decode cP_setJoined 11 = .ok (.bastore, 1) := by decide +kernel
theorem dP_setJoined_12 : decode cP_setJoined 12 = .ok (.aload_n 0, 1) := by decide +kernel
theorem dP_setJoined_13 : decode cP_setJoined 13 = .ok (.getfield 31, 3) := by decide +kernel
theorem dP_setJoined_16 : decode cP_setJoined 16 = .ok (.iload_n 2, 1) := by decide +kernel
theorem dP_setJoined_17 : decode cP_setJoined 17 = .ok (.bipush 12, 2) := by decide +kernel
theorem dP_setJoined_19 : decode cP_setJoined 19 = .ok (.imul, 1) := by decide +kernel
theorem dP_setJoined_20 : decode cP_setJoined 20 = .ok (.iload_n 1, 1) := by decide +kernel
theorem dP_setJoined_21 : decode cP_setJoined 21 = .ok (.iadd, 1) := by decide +kernel
theorem dP_setJoined_22 : decode cP_setJoined 22 = .ok (.iload_n 3, 1) := by decide +kernel
theorem dP_setJoined_23 : decode cP_setJoined 23 = .ok (.bastore, 1) := by decide +kernel
theorem dP_setJoined_24 : decode cP_setJoined 24 = .ok (.return_, 1) := by decide +kernel
theorem dP_riserOf_0 : decode cP_riserOf 0 = .ok (.aload_n 0, 1) := by decide +kernel
theorem dP_riserOf_1 : decode cP_riserOf 1 = .ok (.getfield 28, 3) := by decide +kernel
theorem dP_riserOf_4 : decode cP_riserOf 4 = .ok (.iload_n 1, 1) := by decide +kernel
theorem dP_riserOf_5 : decode cP_riserOf 5 = .ok (.iaload, 1) := by decide +kernel
theorem dP_riserOf_6 : decode cP_riserOf 6 = .ok (.ireturn, 1) := by decide +kernel
theorem dP_setRiser_0 : decode cP_setRiser 0 = .ok (.aload_n 0, 1) := by decide +kernel
theorem dP_setRiser_1 : decode cP_setRiser 1 = .ok (.getfield 28, 3) := by decide +kernel
theorem dP_setRiser_4 : decode cP_setRiser 4 = .ok (.iload_n 1, 1) := by decide +kernel
theorem dP_setRiser_5 : decode cP_setRiser 5 = .ok (.iload_n 2, 1) := by decide +kernel
theorem dP_setRiser_6 : decode cP_setRiser 6 = .ok (.iastore, 1) := by decide +kernel
theorem dP_setRiser_7 : decode cP_setRiser 7 = .ok (.return_, 1) := by decide +kernel
theorem dP_compare_0 : decode cP_compare 0 = .ok (.aload_n 0, 1) := by decide +kernel
theorem dP_compare_1 : decode cP_compare 1 = .ok (.getfield 9, 3) := by decide +kernel
theorem dP_compare_4 : decode cP_compare 4 = .ok (.iload_n 1, 1) := by decide +kernel
theorem dP_compare_5 : decode cP_compare 5 = .ok (.laload, 1) := by decide +kernel
theorem dP_compare_6 : decode cP_compare 6 = .ok (.aload_n 0, 1) := by decide +kernel
theorem dP_compare_7 : decode cP_compare 7 = .ok (.getfield 15, 3) := by decide +kernel
theorem dP_compare_10 : decode cP_compare 10 = .ok (.iload_n 2, 1) := by decide +kernel
theorem dP_compare_11 : decode cP_compare 11 = .ok (.laload, 1) := by decide +kernel
theorem dP_compare_12 : decode cP_compare 12 = .ok (.lmul, 1) := by decide +kernel
theorem dP_compare_13 : decode cP_compare 13 = .ok (.aload_n 0, 1) := by decide +kernel
theorem dP_compare_14 : decode cP_compare 14 = .ok (.getfield 9, 3) := by decide +kernel
theorem dP_compare_17 : decode cP_compare 17 = .ok (.iload_n 2, 1) := by decide +kernel
theorem dP_compare_18 : decode cP_compare 18 = .ok (.laload, 1) := by decide +kernel
theorem dP_compare_19 : decode cP_compare 19 = .ok (.aload_n 0, 1) := by decide +kernel
theorem dP_compare_20 : decode cP_compare 20 = .ok (.getfield 15, 3) := by decide +kernel
theorem dP_compare_23 : decode cP_compare 23 = .ok (.iload_n 1, 1) := by decide +kernel
theorem dP_compare_24 : decode cP_compare 24 = .ok (.laload, 1) := by decide +kernel
theorem dP_compare_25 : decode cP_compare 25 = .ok (.lmul, 1) := by decide +kernel
theorem dP_compare_26 : decode cP_compare 26 = .ok (.invokestatic 50, 3) := by decide +kernel
theorem dP_compare_29 : decode cP_compare 29 = .ok (.ireturn, 1) := by decide +kernel
theorem dP_solidBefore_0 : decode cP_solidBefore 0 = .ok (.iconst 0, 1) := by decide +kernel
theorem dP_solidBefore_1 : decode cP_solidBefore 1 = .ok (.istore_n 2, 1) := by decide +kernel
theorem dP_solidBefore_2 : decode cP_solidBefore 2 = .ok (.iconst 0, 1) := by decide +kernel
theorem dP_solidBefore_3 : decode cP_solidBefore 3 = .ok (.istore_n 3, 1) := by decide +kernel
theorem dP_solidBefore_4 : decode cP_solidBefore 4 = .ok (.iload_n 3, 1) := by decide +kernel
theorem dP_solidBefore_5 : decode cP_solidBefore 5 = .ok (.aload_n 0, 1) := by decide +kernel
theorem dP_solidBefore_6 : decode cP_solidBefore 6 = .ok (.getfield 35, 3) := by decide +kernel
theorem dP_solidBefore_9 : decode cP_solidBefore 9 = .ok (.if_icmp .ge 29, 3) := by decide +kernel
theorem dP_solidBefore_12 : decode cP_solidBefore 12 = .ok (.aload_n 0, 1) := by decide +kernel
theorem dP_solidBefore_13 : decode cP_solidBefore 13 = .ok (.iload_n 3, 1) := by decide +kernel
theorem dP_solidBefore_14 : decode cP_solidBefore 14 = .ok (.invokevirtual 56, 3) := by decide +kernel
theorem dP_solidBefore_17 : decode cP_solidBefore 17 = .ok (.ifCond .eq 15, 3) := by decide +kernel
theorem dP_solidBefore_20 : decode cP_solidBefore 20 = .ok (.aload_n 0, 1) := by decide +kernel
theorem dP_solidBefore_21 : decode cP_solidBefore 21 = .ok (.iload_n 3, 1) := by decide +kernel
theorem dP_solidBefore_22 : decode cP_solidBefore 22 = .ok (.iload_n 1, 1) := by decide +kernel
theorem dP_solidBefore_23 : decode cP_solidBefore 23 = .ok (.invokevirtual 60, 3) := by decide +kernel
theorem dP_solidBefore_26 : decode cP_solidBefore 26 = .ok (.ifCond .eq 6, 3) := by decide +kernel
theorem dP_solidBefore_29 : decode cP_solidBefore 29 = .ok (.iinc 2 1, 3) := by decide +kernel
theorem dP_solidBefore_32 : decode cP_solidBefore 32 = .ok (.iinc 3 1, 3) := by decide +kernel
theorem dP_solidBefore_35 : decode cP_solidBefore 35 = .ok (.goto (-31), 3) := by decide +kernel
theorem dP_solidBefore_38 : decode cP_solidBefore 38 = .ok (.iload_n 2, 1) := by decide +kernel
theorem dP_solidBefore_39 : decode cP_solidBefore 39 = .ok (.ireturn, 1) := by decide +kernel
theorem dP_isEarlier_0 : decode cP_isEarlier 0 = .ok (.aload_n 0, 1) := by decide +kernel
theorem dP_isEarlier_1 : decode cP_isEarlier 1 = .ok (.iload_n 1, 1) := by decide +kernel
theorem dP_isEarlier_2 : decode cP_isEarlier 2 = .ok (.iload_n 2, 1) := by decide +kernel
theorem dP_isEarlier_3 : decode cP_isEarlier 3 = .ok (.invokevirtual 64, 3) := by decide +kernel
theorem dP_isEarlier_6 : decode cP_isEarlier 6 = .ok (.istore_n 3, 1) := by decide +kernel
theorem dP_isEarlier_7 : decode cP_isEarlier 7 = .ok (.iload_n 3, 1) := by decide +kernel
theorem dP_isEarlier_8 : decode cP_isEarlier 8 = .ok (.ifCond .lt 12, 3) := by decide +kernel
theorem dP_isEarlier_11 : decode cP_isEarlier 11 = .ok (.iload_n 3, 1) := by decide +kernel
theorem dP_isEarlier_12 : decode cP_isEarlier 12 = .ok (.ifCond .ne 12, 3) := by decide +kernel
theorem dP_isEarlier_15 : decode cP_isEarlier 15 = .ok (.iload_n 1, 1) := by decide +kernel
theorem dP_isEarlier_16 : decode cP_isEarlier 16 = .ok (.iload_n 2, 1) := by decide +kernel
theorem dP_isEarlier_17 : decode cP_isEarlier 17 = .ok (.if_icmp .ge 7, 3) := by decide +kernel
theorem dP_isEarlier_20 : decode cP_isEarlier 20 = .ok (.iconst 1, 1) := by decide +kernel
theorem dP_isEarlier_21 : decode cP_isEarlier 21 = .ok (.goto 4, 3) := by decide +kernel
theorem dP_isEarlier_24 : decode cP_isEarlier 24 = .ok (.iconst 0, 1) := by decide +kernel
theorem dP_isEarlier_25 : decode cP_isEarlier 25 = .ok (.ireturn, 1) := by decide +kernel
theorem dP_greatestNeighbour_0 : decode cP_greatestNeighbour 0 = .ok (.iload_n 1, 1) := by decide +kernel
theorem dP_greatestNeighbour_1 : decode cP_greatestNeighbour 1 = .ok (.istore_n 2, 1) := by decide +kernel
theorem dP_greatestNeighbour_2 : decode cP_greatestNeighbour 2 = .ok (.iconst 0, 1) := by decide +kernel
theorem dP_greatestNeighbour_3 : decode cP_greatestNeighbour 3 = .ok (.istore_n 3, 1) := by decide +kernel
theorem dP_greatestNeighbour_4 : decode cP_greatestNeighbour 4 = .ok (.iload_n 3, 1) := by decide +kernel
theorem dP_greatestNeighbour_5 : decode cP_greatestNeighbour 5 = .ok (.aload_n 0, 1) := by decide +kernel
theorem dP_greatestNeighbour_6 : decode cP_greatestNeighbour 6 = .ok (.getfield 35, 3) := by decide +kernel
theorem dP_greatestNeighbour_9 : decode cP_greatestNeighbour 9 = .ok (.if_icmp .ge 37, 3) := by decide +kernel
theorem dP_greatestNeighbour_12 : decode cP_greatestNeighbour 12 = .ok (.aload_n 0, 1) := by decide +kernel
theorem dP_greatestNeighbour_13 : decode cP_greatestNeighbour 13 = .ok (.iload_n 1, 1) := by decide +kernel
theorem dP_greatestNeighbour_14 : decode cP_greatestNeighbour 14 = .ok (.iload_n 3, 1) := by decide +kernel
theorem dP_greatestNeighbour_15 : decode cP_greatestNeighbour 15 = .ok (.invokevirtual 67, 3) := by decide +kernel
theorem dP_greatestNeighbour_18 : decode cP_greatestNeighbour 18 = .ok (.ifCond .eq 22, 3) := by decide +kernel
theorem dP_greatestNeighbour_21 : decode cP_greatestNeighbour 21 = .ok (.aload_n 0, 1) := by decide +kernel
theorem dP_greatestNeighbour_22 : decode cP_greatestNeighbour 22 = .ok (.iload_n 3, 1) := by decide +kernel
theorem dP_greatestNeighbour_23 : decode cP_greatestNeighbour 23 = .ok (.invokevirtual 56, 3) := by decide +kernel
theorem dP_greatestNeighbour_26 : decode cP_greatestNeighbour 26 = .ok (.ifCond .eq 14, 3) := by decide +kernel
theorem dP_greatestNeighbour_29 : decode cP_greatestNeighbour 29 = .ok (.aload_n 0, 1) := by decide +kernel
theorem dP_greatestNeighbour_30 : decode cP_greatestNeighbour 30 = .ok (.iload_n 3, 1) := by decide +kernel
theorem dP_greatestNeighbour_31 : decode cP_greatestNeighbour 31 = .ok (.iload_n 2, 1) := by decide +kernel
theorem dP_greatestNeighbour_32 : decode cP_greatestNeighbour 32 = .ok (.invokevirtual 64, 3) := by decide +kernel
theorem dP_greatestNeighbour_35 : decode cP_greatestNeighbour 35 = .ok (.ifCond .le 5, 3) := by decide +kernel
theorem dP_greatestNeighbour_38 : decode cP_greatestNeighbour 38 = .ok (.iload_n 3, 1) := by decide +kernel
theorem dP_greatestNeighbour_39 : decode cP_greatestNeighbour 39 = .ok (.istore_n 2, 1) := by decide +kernel
theorem dP_greatestNeighbour_40 : decode cP_greatestNeighbour 40 = .ok (.iinc 3 1, 3) := by decide +kernel
theorem dP_greatestNeighbour_43 : decode cP_greatestNeighbour 43 = .ok (.goto (-39), 3) := by decide +kernel
theorem dP_greatestNeighbour_46 : decode cP_greatestNeighbour 46 = .ok (.iload_n 2, 1) := by decide +kernel
theorem dP_greatestNeighbour_47 : decode cP_greatestNeighbour 47 = .ok (.iload_n 1, 1) := by decide +kernel
theorem dP_greatestNeighbour_48 : decode cP_greatestNeighbour 48 = .ok (.if_icmp .ne 7, 3) := by decide +kernel
theorem dP_greatestNeighbour_51 : decode cP_greatestNeighbour 51 = .ok (.iconst (-1), 1) := by decide +kernel
theorem dP_greatestNeighbour_52 : decode cP_greatestNeighbour 52 = .ok (.goto 4, 3) := by decide +kernel
theorem dP_greatestNeighbour_55 : decode cP_greatestNeighbour 55 = .ok (.iload_n 2, 1) := by decide +kernel
theorem dP_greatestNeighbour_56 : decode cP_greatestNeighbour 56 = .ok (.ireturn, 1) := by decide +kernel
theorem dR_init_0 : decode cR_init 0 = .ok (.aload_n 0, 1) := by decide +kernel
theorem dR_init_1 : decode cR_init 1 = .ok (.invokespecial 3, 3) := by decide +kernel
theorem dR_init_4 : decode cR_init 4 = .ok (.aload_n 0, 1) := by decide +kernel
theorem dR_init_5 : decode cR_init 5 = .ok (.bipush 8, 2) := by decide +kernel
theorem dR_init_7 : decode cR_init 7 = .ok (.newarray .long, 2) := by decide +kernel
theorem dR_init_9 : decode cR_init 9 = .ok (.putfield 9, 3) := by decide +kernel
theorem dR_init_12 : decode cR_init 12 = .ok (.aload_n 0, 1) := by decide +kernel
theorem dR_init_13 : decode cR_init 13 = .ok (.bipush 8, 2) := by decide +kernel
theorem dR_init_15 : decode cR_init 15 = .ok (.newarray .long, 2) := by decide +kernel
theorem dR_init_17 : decode cR_init 17 = .ok (.putfield 15, 3) := by decide +kernel
theorem dR_init_20 : decode cR_init 20 = .ok (.return_, 1) := by decide +kernel
theorem dR_isFull_0 : decode cR_isFull 0 = .ok (.aload_n 0, 1) := by decide +kernel
theorem dR_isFull_1 : decode cR_isFull 1 = .ok (.getfield 18, 3) := by decide +kernel
theorem dR_isFull_4 : decode cR_isFull 4 = .ok (.bipush 8, 2) := by decide +kernel
theorem dR_isFull_6 : decode cR_isFull 6 = .ok (.if_icmp .lt 7, 3) := by decide +kernel
theorem dR_isFull_9 : decode cR_isFull 9 = .ok (.iconst 1, 1) := by decide +kernel
theorem dR_isFull_10 : decode cR_isFull 10 = .ok (.goto 4, 3) := by decide +kernel
theorem dR_isFull_13 : decode cR_isFull 13 = .ok (.iconst 0, 1) := by decide +kernel
theorem dR_isFull_14 : decode cR_isFull 14 = .ok (.ireturn, 1) := by decide +kernel
theorem dR_addRow_0 : decode cR_addRow 0 = .ok (.aload_n 0, 1) := by decide +kernel
theorem dR_addRow_1 : decode cR_addRow 1 = .ok (.getfield 9, 3) := by decide +kernel
theorem dR_addRow_4 : decode cR_addRow 4 = .ok (.aload_n 0, 1) := by decide +kernel
theorem dR_addRow_5 : decode cR_addRow 5 = .ok (.getfield 18, 3) := by decide +kernel
theorem dR_addRow_8 : decode cR_addRow 8 = .ok (.iload_n 1, 1) := by decide +kernel
theorem dR_addRow_9 : decode cR_addRow 9 = .ok (.i2l, 1) := by decide +kernel
theorem dR_addRow_10 : decode cR_addRow 10 = .ok (.iload_n 2, 1) := by decide +kernel
theorem dR_addRow_11 : decode cR_addRow 11 = .ok (.i2l, 1) := by decide +kernel
theorem dR_addRow_12 : decode cR_addRow 12 = .ok (.lmul, 1) := by decide +kernel
theorem dR_addRow_13 : decode cR_addRow 13 = .ok (.lastore, 1) := by decide +kernel
theorem dR_addRow_14 : decode cR_addRow 14 = .ok (.aload_n 0, 1) := by decide +kernel
theorem dR_addRow_15 : decode cR_addRow 15 = .ok (.getfield 15, 3) := by decide +kernel
theorem dR_addRow_18 : decode cR_addRow 18 = .ok (.aload_n 0, 1) := by decide +kernel
theorem dR_addRow_19 : decode cR_addRow 19 = .ok (.getfield 18, 3) := by decide +kernel
theorem dR_addRow_22 : decode cR_addRow 22 = .ok (.ldc2_w 22, 3) := by decide +kernel
theorem dR_addRow_25 : decode cR_addRow 25 = .ok (.iload_n 2, 1) := by decide +kernel
theorem dR_addRow_26 : decode cR_addRow 26 = .ok (.i2l, 1) := by decide +kernel
theorem dR_addRow_27 : decode cR_addRow 27 = .ok (.lmul, 1) := by decide +kernel
theorem dR_addRow_28 : decode cR_addRow 28 = .ok (.iload_n 1, 1) := by decide +kernel
theorem dR_addRow_29 : decode cR_addRow 29 = .ok (.i2l, 1) := by decide +kernel
theorem dR_addRow_30 : decode cR_addRow 30 = .ok (.ladd, 1) := by decide +kernel
theorem dR_addRow_31 : decode cR_addRow 31 = .ok (.lastore, 1) := by decide +kernel
theorem dR_addRow_32 : decode cR_addRow 32 = .ok (.aload_n 0, 1) := by decide +kernel
theorem dR_addRow_33 : decode cR_addRow 33 = .ok (.dup, 1) := by decide +kernel
theorem dR_addRow_34 : decode cR_addRow 34 = .ok (.getfield 18, 3) := by decide +kernel
theorem dR_addRow_37 : decode cR_addRow 37 = .ok (.iconst 1, 1) := by decide +kernel
theorem dR_addRow_38 : decode cR_addRow 38 = .ok (.iadd, 1) := by decide +kernel
theorem dR_addRow_39 : decode cR_addRow 39 = .ok (.putfield 18, 3) := by decide +kernel
theorem dR_addRow_42 : decode cR_addRow 42 = .ok (.aload_n 0, 1) := by decide +kernel
theorem dR_addRow_43 : decode cR_addRow 43 = .ok (.getfield 18, 3) := by decide +kernel
theorem dR_addRow_46 : decode cR_addRow 46 = .ok (.ireturn, 1) := by decide +kernel
theorem dR_firstFor_0 : decode cR_firstFor 0 = .ok (.iconst 0, 1) := by decide +kernel
theorem dR_firstFor_1 : decode cR_firstFor 1 = .ok (.istore 5, 2) := by decide +kernel
theorem dR_firstFor_3 : decode cR_firstFor 3 = .ok (.iload 5, 2) := by decide +kernel
theorem dR_firstFor_5 : decode cR_firstFor 5 = .ok (.aload_n 0, 1) := by decide +kernel
theorem dR_firstFor_6 : decode cR_firstFor 6 = .ok (.getfield 18, 3) := by decide +kernel
theorem dR_firstFor_9 : decode cR_firstFor 9 = .ok (.if_icmp .ge 42, 3) := by decide +kernel
theorem dR_firstFor_12 : decode cR_firstFor 12 = .ok (.ldc2_w 24, 3) := by decide +kernel
theorem dR_firstFor_15 : decode cR_firstFor 15 = .ok (.aload_n 0, 1) := by decide +kernel
theorem dR_firstFor_16 : decode cR_firstFor 16 = .ok (.getfield 9, 3) := by decide +kernel
theorem dR_firstFor_19 : decode cR_firstFor 19 = .ok (.iload 5, 2) := by decide +kernel
theorem dR_firstFor_21 : decode cR_firstFor 21 = .ok (.laload, 1) := by decide +kernel
theorem dR_firstFor_22 : decode cR_firstFor 22 = .ok (.lmul, 1) := by decide +kernel
theorem dR_firstFor_23 : decode cR_firstFor 23 = .ok (.lload_n 3, 1) := by decide +kernel
theorem dR_firstFor_24 : decode cR_firstFor 24 = .ok (.lmul, 1) := by decide +kernel
theorem dR_firstFor_25 : decode cR_firstFor 25 = .ok (.ldc2_w 26, 3) := by decide +kernel
theorem dR_firstFor_28 : decode cR_firstFor 28 = .ok (.lload_n 1, 1) := by decide +kernel
theorem dR_firstFor_29 : decode cR_firstFor 29 = .ok (.lmul, 1) := by decide +kernel
theorem dR_firstFor_30 : decode cR_firstFor 30 = .ok (.aload_n 0, 1) := by decide +kernel
theorem dR_firstFor_31 : decode cR_firstFor 31 = .ok (.getfield 15, 3) := by decide +kernel
theorem dR_firstFor_34 : decode cR_firstFor 34 = .ok (.iload 5, 2) := by decide +kernel
theorem dR_firstFor_36 : decode cR_firstFor 36 = .ok (.laload, 1) := by decide +kernel
theorem dR_firstFor_37 : decode cR_firstFor 37 = .ok (.lmul, 1) := by decide +kernel
theorem dR_firstFor_38 : decode cR_firstFor 38 = .ok (.lcmp, 1) := by decide +kernel
theorem dR_firstFor_39 : decode cR_firstFor 39 = .ok (.ifCond .lt 6, 3) := by decide +kernel
theorem dR_firstFor_42 : decode cR_firstFor 42 = .ok (.iload 5, 2) := by decide +kernel
theorem dR_firstFor_44 : decode cR_firstFor 44 = .ok (.ireturn, 1) := by decide +kernel
theorem dR_firstFor_45 : decode cR_firstFor 45 = .ok (.iinc 5 1, 3) := by decide +kernel
theorem dR_firstFor_48 : decode cR_firstFor 48 = .ok (.goto (-45), 3) := by decide +kernel
theorem dR_firstFor_51 : decode cR_firstFor 51 = .ok (.iconst (-1), 1) := by decide +kernel
theorem dR_firstFor_52 : decode cR_firstFor 52 = .ok (.ireturn, 1) := by decide +kernel
theorem dF_init_0 : decode cF_init 0 = .ok (.aload_n 0, 1) := by decide +kernel
theorem dF_init_1 : decode cF_init 1 = .ok (.invokespecial 3, 3) := by decide +kernel
theorem dF_init_4 : decode cF_init 4 = .ok (.aload_n 0, 1) := by decide +kernel
theorem dF_init_5 : decode cF_init 5 = .ok (.bipush 8, 2) := by decide +kernel
theorem dF_init_7 : decode cF_init 7 = .ok (.newarray .int, 2) := by decide +kernel
theorem dF_init_9 : decode cF_init 9 = .ok (.putfield 9, 3) := by decide +kernel
theorem dF_init_12 : decode cF_init 12 = .ok (.aload_n 0, 1) := by decide +kernel
theorem dF_init_13 : decode cF_init 13 = .ok (.bipush 8, 2) := by decide +kernel
theorem dF_init_15 : decode cF_init 15 = .ok (.newarray .int, 2) := by decide +kernel
theorem dF_init_17 : decode cF_init 17 = .ok (.putfield 15, 3) := by decide +kernel
theorem dF_init_20 : decode cF_init 20 = .ok (.return_, 1) := by decide +kernel
theorem dF_isFull_0 : decode cF_isFull 0 = .ok (.aload_n 0, 1) := by decide +kernel
theorem dF_isFull_1 : decode cF_isFull 1 = .ok (.getfield 18, 3) := by decide +kernel
theorem dF_isFull_4 : decode cF_isFull 4 = .ok (.bipush 8, 2) := by decide +kernel
theorem dF_isFull_6 : decode cF_isFull 6 = .ok (.if_icmp .lt 7, 3) := by decide +kernel
theorem dF_isFull_9 : decode cF_isFull 9 = .ok (.iconst 1, 1) := by decide +kernel
theorem dF_isFull_10 : decode cF_isFull 10 = .ok (.goto 4, 3) := by decide +kernel
theorem dF_isFull_13 : decode cF_isFull 13 = .ok (.iconst 0, 1) := by decide +kernel
theorem dF_isFull_14 : decode cF_isFull 14 = .ok (.ireturn, 1) := by decide +kernel
theorem dF_isEmpty_0 : decode cF_isEmpty 0 = .ok (.aload_n 0, 1) := by decide +kernel
theorem dF_isEmpty_1 : decode cF_isEmpty 1 = .ok (.getfield 18, 3) := by decide +kernel
theorem dF_isEmpty_4 : decode cF_isEmpty 4 = .ok (.ifCond .ne 7, 3) := by decide +kernel
theorem dF_isEmpty_7 : decode cF_isEmpty 7 = .ok (.iconst 1, 1) := by decide +kernel
theorem dF_isEmpty_8 : decode cF_isEmpty 8 = .ok (.goto 4, 3) := by decide +kernel
theorem dF_isEmpty_11 : decode cF_isEmpty 11 = .ok (.iconst 0, 1) := by decide +kernel
theorem dF_isEmpty_12 : decode cF_isEmpty 12 = .ok (.ireturn, 1) := by decide +kernel
theorem dF_mayFollow_0 : decode cF_mayFollow 0 = .ok (.aload_n 0, 1) := by decide +kernel
theorem dF_mayFollow_1 : decode cF_mayFollow 1 = .ok (.getfield 18, 3) := by decide +kernel
theorem dF_mayFollow_4 : decode cF_mayFollow 4 = .ok (.ifCond .eq 33, 3) := by decide +kernel
theorem dF_mayFollow_7 : decode cF_mayFollow 7 = .ok (.iload_n 1, 1) := by decide +kernel
theorem dF_mayFollow_8 : decode cF_mayFollow 8 = .ok (.aload_n 0, 1) := by decide +kernel
theorem dF_mayFollow_9 : decode cF_mayFollow 9 = .ok (.getfield 9, 3) := by decide +kernel
theorem dF_mayFollow_12 : decode cF_mayFollow 12 = .ok (.aload_n 0, 1) := by decide +kernel
theorem dF_mayFollow_13 : decode cF_mayFollow 13 = .ok (.getfield 18, 3) := by decide +kernel
theorem dF_mayFollow_16 : decode cF_mayFollow 16 = .ok (.iconst 1, 1) := by decide +kernel
theorem dF_mayFollow_17 : decode cF_mayFollow 17 = .ok (.isub, 1) := by decide +kernel
theorem dF_mayFollow_18 : decode cF_mayFollow 18 = .ok (.iaload, 1) := by decide +kernel
theorem dF_mayFollow_19 : decode cF_mayFollow 19 = .ok (.if_icmp .le 22, 3) := by decide +kernel
theorem dF_mayFollow_22 : decode cF_mayFollow 22 = .ok (.iload_n 2, 1) := by decide +kernel
theorem dF_mayFollow_23 : decode cF_mayFollow 23 = .ok (.aload_n 0, 1) := by decide +kernel
theorem dF_mayFollow_24 : decode cF_mayFollow 24 = .ok (.getfield 15, 3) := by decide +kernel
theorem dF_mayFollow_27 : decode cF_mayFollow 27 = .ok (.aload_n 0, 1) := by decide +kernel
theorem dF_mayFollow_28 : decode cF_mayFollow 28 = .ok (.getfield 18, 3) := by decide +kernel
theorem dF_mayFollow_31 : decode cF_mayFollow 31 = .ok (.iconst 1, 1) := by decide +kernel
theorem dF_mayFollow_32 : decode cF_mayFollow 32 = .ok (.isub, 1) := by decide +kernel
theorem dF_mayFollow_33 : decode cF_mayFollow 33 = .ok (.iaload, 1) := by decide +kernel
theorem dF_mayFollow_34 : decode cF_mayFollow 34 = .ok (.if_icmp .lt 7, 3) := by decide +kernel
theorem dF_mayFollow_37 : decode cF_mayFollow 37 = .ok (.iconst 1, 1) := by decide +kernel
theorem dF_mayFollow_38 : decode cF_mayFollow 38 = .ok (.goto 4, 3) := by decide +kernel
theorem dF_mayFollow_41 : decode cF_mayFollow 41 = .ok (.iconst 0, 1) := by decide +kernel
theorem dF_mayFollow_42 : decode cF_mayFollow 42 = .ok (.ireturn, 1) := by decide +kernel
theorem dF_addRow_0 : decode cF_addRow 0 = .ok (.aload_n 0, 1) := by decide +kernel
theorem dF_addRow_1 : decode cF_addRow 1 = .ok (.getfield 9, 3) := by decide +kernel
theorem dF_addRow_4 : decode cF_addRow 4 = .ok (.aload_n 0, 1) := by decide +kernel
theorem dF_addRow_5 : decode cF_addRow 5 = .ok (.getfield 18, 3) := by decide +kernel
theorem dF_addRow_8 : decode cF_addRow 8 = .ok (.iload_n 1, 1) := by decide +kernel
theorem dF_addRow_9 : decode cF_addRow 9 = .ok (.iastore, 1) := by decide +kernel
theorem dF_addRow_10 : decode cF_addRow 10 = .ok (.aload_n 0, 1) := by decide +kernel
theorem dF_addRow_11 : decode cF_addRow 11 = .ok (.getfield 15, 3) := by decide +kernel
theorem dF_addRow_14 : decode cF_addRow 14 = .ok (.aload_n 0, 1) := by decide +kernel
theorem dF_addRow_15 : decode cF_addRow 15 = .ok (.getfield 18, 3) := by decide +kernel
theorem dF_addRow_18 : decode cF_addRow 18 = .ok (.iload_n 2, 1) := by decide +kernel
theorem dF_addRow_19 : decode cF_addRow 19 = .ok (.iastore, 1) := by decide +kernel
theorem dF_addRow_20 : decode cF_addRow 20 = .ok (.aload_n 0, 1) := by decide +kernel
theorem dF_addRow_21 : decode cF_addRow 21 = .ok (.dup, 1) := by decide +kernel
theorem dF_addRow_22 : decode cF_addRow 22 = .ok (.getfield 18, 3) := by decide +kernel
theorem dF_addRow_25 : decode cF_addRow 25 = .ok (.iconst 1, 1) := by decide +kernel
theorem dF_addRow_26 : decode cF_addRow 26 = .ok (.iadd, 1) := by decide +kernel
theorem dF_addRow_27 : decode cF_addRow 27 = .ok (.putfield 18, 3) := by decide +kernel
theorem dF_addRow_30 : decode cF_addRow 30 = .ok (.aload_n 0, 1) := by decide +kernel
theorem dF_addRow_31 : decode cF_addRow 31 = .ok (.getfield 18, 3) := by decide +kernel
theorem dF_addRow_34 : decode cF_addRow 34 = .ok (.ireturn, 1) := by decide +kernel
theorem dF_flowAt_0 : decode cF_flowAt 0 = .ok (.aload_n 0, 1) := by decide +kernel
theorem dF_flowAt_1 : decode cF_flowAt 1 = .ok (.getfield 15, 3) := by decide +kernel
theorem dF_flowAt_4 : decode cF_flowAt 4 = .ok (.iconst 0, 1) := by decide +kernel
theorem dF_flowAt_5 : decode cF_flowAt 5 = .ok (.iaload, 1) := by decide +kernel
theorem dF_flowAt_6 : decode cF_flowAt 6 = .ok (.istore_n 2, 1) := by decide +kernel
theorem dF_flowAt_7 : decode cF_flowAt 7 = .ok (.iload_n 1, 1) := by decide +kernel
theorem dF_flowAt_8 : decode cF_flowAt 8 = .ok (.aload_n 0, 1) := by decide +kernel
theorem dF_flowAt_9 : decode cF_flowAt 9 = .ok (.getfield 9, 3) := by decide +kernel
theorem dF_flowAt_12 : decode cF_flowAt 12 = .ok (.iconst 0, 1) := by decide +kernel
theorem dF_flowAt_13 : decode cF_flowAt 13 = .ok (.iaload, 1) := by decide +kernel
theorem dF_flowAt_14 : decode cF_flowAt 14 = .ok (.if_icmp .gt 5, 3) := by decide +kernel
theorem dF_flowAt_17 : decode cF_flowAt 17 = .ok (.iload_n 2, 1) := by decide +kernel
theorem dF_flowAt_18 : decode cF_flowAt 18 = .ok (.ireturn, 1) := by decide +kernel
theorem dF_flowAt_19 : decode cF_flowAt 19 = .ok (.iconst 1, 1) := by decide +kernel
theorem dF_flowAt_20 : decode cF_flowAt 20 = .ok (.istore_n 3, 1) := by decide +kernel
theorem dF_flowAt_21 : decode cF_flowAt 21 = .ok (.iload_n 3, 1) := by decide +kernel
theorem dF_flowAt_22 : decode cF_flowAt 22 = .ok (.aload_n 0, 1) := by decide +kernel
theorem dF_flowAt_23 : decode cF_flowAt 23 = .ok (.getfield 18, 3) := by decide +kernel
theorem dF_flowAt_26 : decode cF_flowAt 26 = .ok (.if_icmp .ge 36, 3) := by decide +kernel
theorem dF_flowAt_29 : decode cF_flowAt 29 = .ok (.iload_n 1, 1) := by decide +kernel
theorem dF_flowAt_30 : decode cF_flowAt 30 = .ok (.aload_n 0, 1) := by decide +kernel
theorem dF_flowAt_31 : decode cF_flowAt 31 = .ok (.getfield 9, 3) := by decide +kernel
theorem dF_flowAt_34 : decode cF_flowAt 34 = .ok (.iload_n 3, 1) := by decide +kernel
theorem dF_flowAt_35 : decode cF_flowAt 35 = .ok (.iaload, 1) := by decide +kernel
theorem dF_flowAt_36 : decode cF_flowAt 36 = .ok (.if_icmp .ge 13, 3) := by decide +kernel
theorem dF_flowAt_39 : decode cF_flowAt 39 = .ok (.aload_n 0, 1) := by decide +kernel
theorem dF_flowAt_40 : decode cF_flowAt 40 = .ok (.iload_n 3, 1) := by decide +kernel
theorem dF_flowAt_41 : decode cF_flowAt 41 = .ok (.iconst 1, 1) := by decide +kernel
theorem dF_flowAt_42 : decode cF_flowAt 42 = .ok (.isub, 1) := by decide +kernel
theorem dF_flowAt_43 : decode cF_flowAt 43 = .ok (.iload_n 3, 1) := by decide +kernel
theorem dF_flowAt_44 : decode cF_flowAt 44 = .ok (.iload_n 1, 1) := by decide +kernel
theorem dF_flowAt_45 : decode cF_flowAt 45 = .ok (.invokevirtual 22, 3) := by decide +kernel
theorem dF_flowAt_48 : decode cF_flowAt 48 = .ok (.ireturn, 1) := by decide +kernel
theorem dF_flowAt_49 : decode cF_flowAt 49 = .ok (.aload_n 0, 1) := by decide +kernel
theorem dF_flowAt_50 : decode cF_flowAt 50 = .ok (.getfield 15, 3) := by decide +kernel
theorem dF_flowAt_53 : decode cF_flowAt 53 = .ok (.iload_n 3, 1) := by decide +kernel
theorem dF_flowAt_54 : decode cF_flowAt 54 = .ok (.iaload, 1) := by decide +kernel
theorem dF_flowAt_55 : decode cF_flowAt 55 = .ok (.istore_n 2, 1) := by decide +kernel
theorem dF_flowAt_56 : decode cF_flowAt 56 = .ok (.iinc 3 1, 3) := by decide +kernel
theorem dF_flowAt_59 : decode cF_flowAt 59 = .ok (.goto (-38), 3) := by decide +kernel
theorem dF_flowAt_62 : decode cF_flowAt 62 = .ok (.iload_n 2, 1) := by decide +kernel
theorem dF_flowAt_63 : decode cF_flowAt 63 = .ok (.ireturn, 1) := by decide +kernel
theorem dF_flowBetween_0 : decode cF_flowBetween 0 = .ok (.aload_n 0, 1) := by decide +kernel
theorem dF_flowBetween_1 : decode cF_flowBetween 1 = .ok (.getfield 9, 3) := by decide +kernel
theorem dF_flowBetween_4 : decode cF_flowBetween 4 = .ok (.iload_n 2, 1) := by decide +kernel
theorem dF_flowBetween_5 : decode cF_flowBetween 5 = .ok (.iaload, 1) := by decide +kernel
theorem dF_flowBetween_6 : decode cF_flowBetween 6 = .ok (.aload_n 0, 1) := by decide +kernel
theorem dF_flowBetween_7 : decode cF_flowBetween 7 = .ok (.getfield 9, 3) := by decide +kernel
theorem dF_flowBetween_10 : decode cF_flowBetween 10 = .ok (.iload_n 1, 1) := by decide +kernel
theorem dF_flowBetween_11 : decode cF_flowBetween 11 = .ok (.iaload, 1) := by decide +kernel
theorem dF_flowBetween_12 : decode cF_flowBetween 12 = .ok (.isub, 1) := by decide +kernel
theorem dF_flowBetween_13 : decode cF_flowBetween 13 = .ok (.istore 4, 2) := by decide +kernel
theorem dF_flowBetween_15 : decode cF_flowBetween 15 = .ok (.iload 4, 2) := by decide +kernel
theorem dF_flowBetween_17 : decode cF_flowBetween 17 = .ok (.ifCond .gt 10, 3) := by decide +kernel
theorem dF_flowBetween_20 : decode cF_flowBetween 20 = .ok (.aload_n 0, 1) := by decide +kernel
theorem dF_flowBetween_21 : decode cF_flowBetween 21 = .ok (.getfield 15, 3) := by decide +kernel
theorem dF_flowBetween_24 : decode cF_flowBetween 24 = .ok (.iload_n 1, 1) := by decide +kernel
theorem dF_flowBetween_25 : decode cF_flowBetween 25 = .ok (.iaload, 1) := by decide +kernel
theorem dF_flowBetween_26 : decode cF_flowBetween 26 = .ok (.ireturn, 1) := by decide +kernel
theorem dF_flowBetween_27 : decode cF_flowBetween 27 = .ok (.aload_n 0, 1) := by decide +kernel
theorem dF_flowBetween_28 : decode cF_flowBetween 28 = .ok (.getfield 15, 3) := by decide +kernel
theorem dF_flowBetween_31 : decode cF_flowBetween 31 = .ok (.iload_n 2, 1) := by decide +kernel
theorem dF_flowBetween_32 : decode cF_flowBetween 32 = .ok (.iaload, 1) := by decide +kernel
theorem dF_flowBetween_33 : decode cF_flowBetween 33 = .ok (.aload_n 0, 1) := by decide +kernel
theorem dF_flowBetween_34 : decode cF_flowBetween 34 = .ok (.getfield 15, 3) := by decide +kernel
theorem dF_flowBetween_37 : decode cF_flowBetween 37 = .ok (.iload_n 1, 1) := by decide +kernel
theorem dF_flowBetween_38 : decode cF_flowBetween 38 = .ok (.iaload, 1) := by decide +kernel
theorem dF_flowBetween_39 : decode cF_flowBetween 39 = .ok (.isub, 1) := by decide +kernel
theorem dF_flowBetween_40 : decode cF_flowBetween 40 = .ok (.i2l, 1) := by decide +kernel
theorem dF_flowBetween_41 : decode cF_flowBetween 41 = .ok (.lstore 5, 2) := by decide +kernel
theorem dF_flowBetween_43 : decode cF_flowBetween 43 = .ok (.aload_n 0, 1) := by decide +kernel
theorem dF_flowBetween_44 : decode cF_flowBetween 44 = .ok (.getfield 15, 3) := by decide +kernel
theorem dF_flowBetween_47 : decode cF_flowBetween 47 = .ok (.iload_n 1, 1) := by decide +kernel
theorem dF_flowBetween_48 : decode cF_flowBetween 48 = .ok (.iaload, 1) := by decide +kernel
theorem dF_flowBetween_49 : decode cF_flowBetween 49 = .ok (.lload 5, 2) := by decide +kernel
theorem dF_flowBetween_51 : decode cF_flowBetween 51 = .ok (.iload_n 3, 1) := by decide +kernel
theorem dF_flowBetween_52 : decode cF_flowBetween 52 = .ok (.aload_n 0, 1) := by decide +kernel
theorem dF_flowBetween_53 : decode cF_flowBetween 53 = .ok (.getfield 9, 3) := by decide +kernel
theorem dF_flowBetween_56 : decode cF_flowBetween 56 = .ok (.iload_n 1, 1) := by decide +kernel
theorem dF_flowBetween_57 : decode cF_flowBetween 57 = .ok (.iaload, 1) := by decide +kernel
theorem dF_flowBetween_58 : decode cF_flowBetween 58 = .ok (.isub, 1) := by decide +kernel
theorem dF_flowBetween_59 : decode cF_flowBetween 59 = .ok (.i2l, 1) := by decide +kernel
theorem dF_flowBetween_60 : decode cF_flowBetween 60 = .ok (.lmul, 1) := by decide +kernel
theorem dF_flowBetween_61 : decode cF_flowBetween 61 = .ok (.iload 4, 2) := by decide +kernel
theorem dF_flowBetween_63 : decode cF_flowBetween 63 = .ok (.i2l, 1) := by decide +kernel
theorem dF_flowBetween_64 : decode cF_flowBetween 64 = .ok (.ldiv, 1) := by decide +kernel
theorem dF_flowBetween_65 : decode cF_flowBetween 65 = .ok (.l2i, 1) := by decide +kernel
theorem dF_flowBetween_66 : decode cF_flowBetween 66 = .ok (.iadd, 1) := by decide +kernel
theorem dF_flowBetween_67 : decode cF_flowBetween 67 = .ok (.ireturn, 1) := by decide +kernel
theorem dF_leastOpeningFor_0 : decode cF_leastOpeningFor 0 = .ok (.iconst 0, 1) := by decide +kernel
theorem dF_leastOpeningFor_1 : decode cF_leastOpeningFor 1 = .ok (.istore_n 2, 1) := by decide +kernel
theorem dF_leastOpeningFor_2 : decode cF_leastOpeningFor 2 = .ok (.sipush 10000, 3) := by decide +kernel
theorem dF_leastOpeningFor_5 : decode cF_leastOpeningFor 5 = .ok (.istore_n 3, 1) := by decide +kernel
theorem dF_leastOpeningFor_6 : decode cF_leastOpeningFor 6 = .ok (.iconst 0, 1) := by decide +kernel
theorem dF_leastOpeningFor_7 : decode cF_leastOpeningFor 7 = .ok (.istore 4, 2) := by decide +kernel
theorem dF_leastOpeningFor_9 : decode cF_leastOpeningFor 9 = .ok (.iload 4, 2) := by decide +kernel
theorem dF_leastOpeningFor_11 : decode cF_leastOpeningFor 11 = .ok (.bipush 100, 2) := by decide +kernel
theorem dF_leastOpeningFor_13 : decode cF_leastOpeningFor 13 = .ok (.if_icmp .ge 42, 3) := by decide +kernel
theorem dF_leastOpeningFor_16 : decode cF_leastOpeningFor 16 = .ok (.iload_n 2, 1) := by decide +kernel
theorem dF_leastOpeningFor_17 : decode cF_leastOpeningFor 17 = .ok (.iload_n 3, 1) := by decide +kernel
theorem dF_leastOpeningFor_18 : decode cF_leastOpeningFor 18 = .ok (.if_icmp .ge 37, 3) := by decide +kernel
theorem dF_leastOpeningFor_21 : decode cF_leastOpeningFor 21 = .ok (.iload_n 2, 1) := by decide +kernel
theorem dF_leastOpeningFor_22 : decode cF_leastOpeningFor 22 = .ok (.iload_n 3, 1) := by decide +kernel
theorem dF_leastOpeningFor_23 : decode cF_leastOpeningFor 23 = .ok (.iadd, 1) := by decide +kernel
theorem dF_leastOpeningFor_24 : decode cF_leastOpeningFor 24 = .ok (.iconst 2, 1) := by decide +kernel
theorem dF_leastOpeningFor_25 : decode cF_leastOpeningFor 25 = .ok (.idiv, 1) := by decide +kernel
theorem dF_leastOpeningFor_26 : decode cF_leastOpeningFor 26 = .ok (.istore 5, 2) := by decide +kernel
theorem dF_leastOpeningFor_28 : decode cF_leastOpeningFor 28 = .ok (.aload_n 0, 1) := by decide +kernel
theorem dF_leastOpeningFor_29 : decode cF_leastOpeningFor 29 = .ok (.iload 5, 2) := by decide +kernel
theorem dF_leastOpeningFor_31 : decode cF_leastOpeningFor 31 = .ok (.invokevirtual 26, 3) := by decide +kernel
theorem dF_leastOpeningFor_34 : decode cF_leastOpeningFor 34 = .ok (.iload_n 1, 1) := by decide +kernel
theorem dF_leastOpeningFor_35 : decode cF_leastOpeningFor 35 = .ok (.if_icmp .lt 9, 3) := by decide +kernel
theorem dF_leastOpeningFor_38 : decode cF_leastOpeningFor 38 = .ok (.iload 5, 2) := by decide +kernel
theorem dF_leastOpeningFor_40 : decode cF_leastOpeningFor 40 = .ok (.istore_n 3, 1) := by decide +kernel
theorem dF_leastOpeningFor_41 : decode cF_leastOpeningFor 41 = .ok (.goto 8, 3) := by decide +kernel
theorem dF_leastOpeningFor_44 : decode cF_leastOpeningFor 44 = .ok (.iload 5, 2) := by decide +kernel
theorem dF_leastOpeningFor_46 : decode cF_leastOpeningFor 46 = .ok (.iconst 1, 1) := by decide +kernel
theorem dF_leastOpeningFor_47 : decode cF_leastOpeningFor 47 = .ok (.iadd, 1) := by decide +kernel
theorem dF_leastOpeningFor_48 : decode cF_leastOpeningFor 48 = .ok (.istore_n 2, 1) := by decide +kernel
theorem dF_leastOpeningFor_49 : decode cF_leastOpeningFor 49 = .ok (.iinc 4 1, 3) := by decide +kernel
theorem dF_leastOpeningFor_52 : decode cF_leastOpeningFor 52 = .ok (.goto (-43), 3) := by decide +kernel
theorem dF_leastOpeningFor_55 : decode cF_leastOpeningFor 55 = .ok (.iload_n 2, 1) := by decide +kernel
theorem dF_leastOpeningFor_56 : decode cF_leastOpeningFor 56 = .ok (.ireturn, 1) := by decide +kernel
theorem dM_init_0 : decode cM_init 0 = .ok (.aload_n 0, 1) := by decide +kernel
theorem dM_init_1 : decode cM_init 1 = .ok (.invokespecial 3, 3) := by decide +kernel
theorem dM_init_4 : decode cM_init 4 = .ok (.aload_n 0, 1) := by decide +kernel
theorem dM_init_5 : decode cM_init 5 = .ok (.bipush 40, 2) := by decide +kernel
theorem dM_init_7 : decode cM_init 7 = .ok (.newarray .int, 2) := by decide +kernel
theorem dM_init_9 : decode cM_init 9 = .ok (.putfield 9, 3) := by decide +kernel
theorem dM_init_12 : decode cM_init 12 = .ok (.aload_n 0, 1) := by decide +kernel
theorem dM_init_13 : decode cM_init 13 = .ok (.bipush 40, 2) := by decide +kernel
theorem dM_init_15 : decode cM_init 15 = .ok (.newarray .int, 2) := by decide +kernel
theorem dM_init_17 : decode cM_init 17 = .ok (.putfield 15, 3) := by decide +kernel
theorem dM_init_20 : decode cM_init 20 = .ok (.aload_n 0, 1) := by decide +kernel
theorem dM_init_21 : decode cM_init 21 = .ok (.bipush 40, 2) := by decide +kernel
theorem dM_init_23 : decode cM_init 23 = .ok (.newarray .int, 2) := by decide +kernel
theorem dM_init_25 : decode cM_init 25 = .ok (.putfield 18, 3) := by decide +kernel
theorem dM_init_28 : decode cM_init 28 = .ok (.aload_n 0, 1) := by decide +kernel
theorem dM_init_29 : decode cM_init 29 = .ok (.bipush 40, 2) := by decide +kernel
theorem dM_init_31 : decode cM_init 31 = .ok (.newarray .int, 2) := by decide +kernel
theorem dM_init_33 : decode cM_init 33 = .ok (.putfield 21, 3) := by decide +kernel
theorem dM_init_36 : decode cM_init 36 = .ok (.aload_n 0, 1) := by decide +kernel
theorem dM_init_37 : decode cM_init 37 = .ok (.bipush 40, 2) := by decide +kernel
theorem dM_init_39 : decode cM_init 39 = .ok (.newarray .int, 2) := by decide +kernel
theorem dM_init_41 : decode cM_init 41 = .ok (.putfield 24, 3) := by decide +kernel
theorem dM_init_44 : decode cM_init 44 = .ok (.aload_n 0, 1) := by decide +kernel
theorem dM_init_45 : decode cM_init 45 = .ok (.sipush 1000, 3) := by decide +kernel
theorem dM_init_48 : decode cM_init 48 = .ok (.putfield 27, 3) := by decide +kernel
theorem dM_init_51 : decode cM_init 51 = .ok (.aload_n 0, 1) := by decide +kernel
theorem dM_init_52 : decode cM_init 52 = .ok (.sipush 1000, 3) := by decide +kernel
theorem dM_init_55 : decode cM_init 55 = .ok (.putfield 31, 3) := by decide +kernel
theorem dM_init_58 : decode cM_init 58 = .ok (.return_, 1) := by decide +kernel
theorem dM_clearTo_0 : decode cM_clearTo 0 = .ok (.aload_n 0, 1) := by decide +kernel
theorem dM_clearTo_1 : decode cM_clearTo 1 = .ok (.iload_n 1, 1) := by decide +kernel
theorem dM_clearTo_2 : decode cM_clearTo 2 = .ok (.putfield 27, 3) := by decide +kernel
theorem dM_clearTo_5 : decode cM_clearTo 5 = .ok (.aload_n 0, 1) := by decide +kernel
theorem dM_clearTo_6 : decode cM_clearTo 6 = .ok (.iload_n 2, 1) := by decide +kernel
theorem dM_clearTo_7 : decode cM_clearTo 7 = .ok (.putfield 31, 3) := by decide +kernel
theorem dM_clearTo_10 : decode cM_clearTo 10 = .ok (.aload_n 0, 1) := by decide +kernel
theorem dM_clearTo_11 : decode cM_clearTo 11 = .ok (.iconst 0, 1) := by decide +kernel
theorem dM_clearTo_12 : decode cM_clearTo 12 = .ok (.putfield 34, 3) := by decide +kernel
theorem dM_clearTo_15 : decode cM_clearTo 15 = .ok (.aload_n 0, 1) := by decide +kernel
theorem dM_clearTo_16 : decode cM_clearTo 16 = .ok (.iconst 0, 1) := by decide +kernel
theorem dM_clearTo_17 : decode cM_clearTo 17 = .ok (.putfield 37, 3) := by decide +kernel
theorem dM_clearTo_20 : decode cM_clearTo 20 = .ok (.aload_n 0, 1) := by decide +kernel
theorem dM_clearTo_21 : decode cM_clearTo 21 = .ok (.iconst 0, 1) := by decide +kernel
theorem dM_clearTo_22 : decode cM_clearTo 22 = .ok (.putfield 40, 3) := by decide +kernel
theorem dM_clearTo_25 : decode cM_clearTo 25 = .ok (.return_, 1) := by decide +kernel
theorem dM_isFull_0 : decode cM_isFull 0 = .ok (.aload_n 0, 1) := by decide +kernel
theorem dM_isFull_1 : decode cM_isFull 1 = .ok (.getfield 37, 3) := by decide +kernel
theorem dM_isFull_4 : decode cM_isFull 4 = .ok (.bipush 40, 2) := by decide +kernel
theorem dM_isFull_6 : decode cM_isFull 6 = .ok (.if_icmp .lt 7, 3) := by decide +kernel
theorem dM_isFull_9 : decode cM_isFull 9 = .ok (.iconst 1, 1) := by decide +kernel
theorem dM_isFull_10 : decode cM_isFull 10 = .ok (.goto 4, 3) := by decide +kernel
theorem dM_isFull_13 : decode cM_isFull 13 = .ok (.iconst 0, 1) := by decide +kernel
theorem dM_isFull_14 : decode cM_isFull 14 = .ok (.ireturn, 1) := by decide +kernel
theorem dM_hasThing_0 : decode cM_hasThing 0 = .ok (.iload_n 1, 1) := by decide +kernel
theorem dM_hasThing_1 : decode cM_hasThing 1 = .ok (.ifCond .lt 15, 3) := by decide +kernel
theorem dM_hasThing_4 : decode cM_hasThing 4 = .ok (.iload_n 1, 1) := by decide +kernel
theorem dM_hasThing_5 : decode cM_hasThing 5 = .ok (.aload_n 0, 1) := by decide +kernel
theorem dM_hasThing_6 : decode cM_hasThing 6 = .ok (.getfield 37, 3) := by decide +kernel
theorem dM_hasThing_9 : decode cM_hasThing 9 = .ok (.if_icmp .ge 7, 3) := by decide +kernel
theorem dM_hasThing_12 : decode cM_hasThing 12 = .ok (.iconst 1, 1) := by decide +kernel
theorem dM_hasThing_13 : decode cM_hasThing 13 = .ok (.goto 4, 3) := by decide +kernel
theorem dM_hasThing_16 : decode cM_hasThing 16 = .ok (.iconst 0, 1) := by decide +kernel
theorem dM_hasThing_17 : decode cM_hasThing 17 = .ok (.ireturn, 1) := by decide +kernel
theorem dM_shelfFor_0 : decode cM_shelfFor 0 = .ok (.iconst 0, 1) := by decide +kernel
theorem dM_shelfFor_1 : decode cM_shelfFor 1 = .ok (.istore_n 3, 1) := by decide +kernel
theorem dM_shelfFor_2 : decode cM_shelfFor 2 = .ok (.iload_n 3, 1) := by decide +kernel
theorem dM_shelfFor_3 : decode cM_shelfFor 3 = .ok (.aload_n 0, 1) := by decide +kernel
theorem dM_shelfFor_4 : decode cM_shelfFor 4 = .ok (.getfield 40, 3) := by decide +kernel
theorem dM_shelfFor_7 : decode cM_shelfFor 7 = .ok (.if_icmp .ge 36, 3) := by decide +kernel
theorem dM_shelfFor_10 : decode cM_shelfFor 10 = .ok (.iload_n 2, 1) := by decide +kernel
theorem dM_shelfFor_11 : decode cM_shelfFor 11 = .ok (.aload_n 0, 1) := by decide +kernel
theorem dM_shelfFor_12 : decode cM_shelfFor 12 = .ok (.getfield 21, 3) := by decide +kernel
theorem dM_shelfFor_15 : decode cM_shelfFor 15 = .ok (.iload_n 3, 1) := by decide +kernel
theorem dM_shelfFor_16 : decode cM_shelfFor 16 = .ok (.iaload, 1) := by decide +kernel
theorem dM_shelfFor_17 : decode cM_shelfFor 17 = .ok (.if_icmp .gt 20, 3) := by decide +kernel
theorem dM_shelfFor_20 : decode cM_shelfFor 20 = .ok (.iload_n 1, 1) := by decide +kernel
theorem dM_shelfFor_21 : decode cM_shelfFor 21 = .ok (.aload_n 0, 1) := by decide +kernel
theorem dM_shelfFor_22 : decode cM_shelfFor 22 = .ok (.getfield 27, 3) := by decide +kernel
theorem dM_shelfFor_25 : decode cM_shelfFor 25 = .ok (.aload_n 0, 1) := by decide +kernel
theorem dM_shelfFor_26 : decode cM_shelfFor 26 = .ok (.getfield 24, 3) := by decide +kernel
theorem dM_shelfFor_29 : decode cM_shelfFor 29 = .ok (.iload_n 3, 1) := by decide +kernel
theorem dM_shelfFor_30 : decode cM_shelfFor 30 = .ok (.iaload, 1) := by decide +kernel
theorem dM_shelfFor_31 : decode cM_shelfFor 31 = .ok (.isub, 1) := by decide +kernel
theorem dM_shelfFor_32 : decode cM_shelfFor 32 = .ok (.if_icmp .gt 5, 3) := by decide +kernel
theorem dM_shelfFor_35 : decode cM_shelfFor 35 = .ok (.iload_n 3, 1) := by decide +kernel
theorem dM_shelfFor_36 : decode cM_shelfFor 36 = .ok (.ireturn, 1) := by decide +kernel
theorem dM_shelfFor_37 : decode cM_shelfFor 37 = .ok (.iinc 3 1, 3) := by decide +kernel
theorem dM_shelfFor_40 : decode cM_shelfFor 40 = .ok (.goto (-38), 3) := by decide +kernel
theorem dM_shelfFor_43 : decode cM_shelfFor 43 = .ok (.iload_n 1, 1) := by decide +kernel
theorem dM_shelfFor_44 : decode cM_shelfFor 44 = .ok (.aload_n 0, 1) := by decide +kernel
theorem dM_shelfFor_45 : decode cM_shelfFor 45 = .ok (.getfield 27, 3) := by decide +kernel
theorem dM_shelfFor_48 : decode cM_shelfFor 48 = .ok (.if_icmp .gt 23, 3) := by decide +kernel
theorem dM_shelfFor_51 : decode cM_shelfFor 51 = .ok (.iload_n 2, 1) := by decide +kernel
theorem dM_shelfFor_52 : decode cM_shelfFor 52 = .ok (.aload_n 0, 1) := by decide +kernel
theorem dM_shelfFor_53 : decode cM_shelfFor 53 = .ok (.getfield 31, 3) := by decide +kernel
theorem dM_shelfFor_56 : decode cM_shelfFor 56 = .ok (.aload_n 0, 1) := by decide +kernel
theorem dM_shelfFor_57 : decode cM_shelfFor 57 = .ok (.getfield 34, 3) := by decide +kernel
theorem dM_shelfFor_60 : decode cM_shelfFor 60 = .ok (.isub, 1) := by decide +kernel
theorem dM_shelfFor_61 : decode cM_shelfFor 61 = .ok (.if_icmp .gt 10, 3) := by decide +kernel
theorem dM_shelfFor_64 : decode cM_shelfFor 64 = .ok (.aload_n 0, 1) := by decide +kernel
theorem dM_shelfFor_65 : decode cM_shelfFor 65 = .ok (.getfield 40, 3) := by decide +kernel
theorem dM_shelfFor_68 : decode cM_shelfFor 68 = .ok (.goto 4, 3) := by decide +kernel
theorem dM_shelfFor_71 : decode cM_shelfFor 71 = .ok (.iconst (-1), 1) := by decide +kernel
theorem dM_shelfFor_72 : decode cM_shelfFor 72 = .ok (.ireturn, 1) := by decide +kernel
theorem dM_putOn_0 : decode cM_putOn 0 = .ok (.iload_n 1, 1) := by decide +kernel
theorem dM_putOn_1 : decode cM_putOn 1 = .ok (.aload_n 0, 1) := by decide +kernel
theorem dM_putOn_2 : decode cM_putOn 2 = .ok (.getfield 40, 3) := by decide +kernel
theorem dM_putOn_5 : decode cM_putOn 5 = .ok (.if_icmp .ne 8, 3) := by decide +kernel
theorem dM_putOn_8 : decode cM_putOn 8 = .ok (.aload_n 0, 1) := by decide +kernel
theorem dM_putOn_9 : decode cM_putOn 9 = .ok (.iload_n 3, 1) := by decide +kernel
theorem dM_putOn_10 : decode cM_putOn 10 = .ok (.invokevirtual 43, 3) := by decide +kernel
theorem dM_putOn_13 : decode cM_putOn 13 = .ok (.aload_n 0, 1) := by decide +kernel
theorem dM_putOn_14 : decode cM_putOn 14 = .ok (.getfield 37, 3) := by decide +kernel
theorem dM_putOn_17 : decode cM_putOn 17 = .ok (.istore 4, 2) := by decide +kernel
theorem dM_putOn_19 : decode cM_putOn 19 = .ok (.aload_n 0, 1) := by decide +kernel
theorem dM_putOn_20 : decode cM_putOn 20 = .ok (.dup, 1) := by decide +kernel
theorem dM_putOn_21 : decode cM_putOn 21 = .ok (.getfield 37, 3) := by decide +kernel
theorem dM_putOn_24 : decode cM_putOn 24 = .ok (.iconst 1, 1) := by decide +kernel
theorem dM_putOn_25 : decode cM_putOn 25 = .ok (.iadd, 1) := by decide +kernel
theorem dM_putOn_26 : decode cM_putOn 26 = .ok (.putfield 37, 3) := by decide +kernel
theorem dM_putOn_29 : decode cM_putOn 29 = .ok (.aload_n 0, 1) := by decide +kernel
theorem dM_putOn_30 : decode cM_putOn 30 = .ok (.getfield 9, 3) := by decide +kernel
theorem dM_putOn_33 : decode cM_putOn 33 = .ok (.iload 4, 2) := by decide +kernel
theorem dM_putOn_35 : decode cM_putOn 35 = .ok (.aload_n 0, 1) := by decide +kernel
theorem dM_putOn_36 : decode cM_putOn 36 = .ok (.getfield 24, 3) := by decide +kernel
theorem dM_putOn_39 : decode cM_putOn 39 = .ok (.iload_n 1, 1) := by decide +kernel
theorem dM_putOn_40 : decode cM_putOn 40 = .ok (.iaload, 1) := by decide +kernel
theorem dM_putOn_41 : decode cM_putOn 41 = .ok (.iastore, 1) := by decide +kernel
theorem dM_putOn_42 : decode cM_putOn 42 = .ok (.aload_n 0, 1) := by decide +kernel
theorem dM_putOn_43 : decode cM_putOn 43 = .ok (.getfield 15, 3) := by decide +kernel
theorem dM_putOn_46 : decode cM_putOn 46 = .ok (.iload 4, 2) := by decide +kernel
theorem dM_putOn_48 : decode cM_putOn 48 = .ok (.aload_n 0, 1) := by decide +kernel
theorem dM_putOn_49 : decode cM_putOn 49 = .ok (.getfield 18, 3) := by decide +kernel
theorem dM_putOn_52 : decode cM_putOn 52 = .ok (.iload_n 1, 1) := by decide +kernel
theorem dM_putOn_53 : decode cM_putOn 53 = .ok (.iaload, 1) := by decide +kernel
theorem dM_putOn_54 : decode cM_putOn 54 = .ok (.iastore, 1) := by decide +kernel
theorem dM_putOn_55 : decode cM_putOn 55 = .ok (.aload_n 0, 1) := by decide +kernel
theorem dM_putOn_56 : decode cM_putOn 56 = .ok (.getfield 24, 3) := by decide +kernel
theorem dM_putOn_59 : decode cM_putOn 59 = .ok (.iload_n 1, 1) := by decide +kernel
theorem dM_putOn_60 : decode cM_putOn 60 = .ok (.dup2, 1) := by decide +kernel
theorem dM_putOn_61 : decode cM_putOn 61 = .ok (.iaload, 1) := by decide +kernel
theorem dM_putOn_62 : decode cM_putOn 62 = .ok (.iload_n 2, 1) := by decide +kernel
theorem dM_putOn_63 : decode cM_putOn 63 = .ok (.iadd, 1) := by decide +kernel
theorem dM_putOn_64 : decode cM_putOn 64 = .ok (.iastore, 1) := by decide +kernel
theorem dM_putOn_65 : decode cM_putOn 65 = .ok (.iload 4, 2) := by decide +kernel
theorem dM_putOn_67 : decode cM_putOn 67 = .ok (.ireturn, 1) := by decide +kernel
theorem dM_openShelf_0 : decode cM_openShelf 0 = .ok (.aload_n 0, 1) := by decide +kernel
theorem dM_openShelf_1 : decode cM_openShelf 1 = .ok (.getfield 18, 3) := by decide +kernel
theorem dM_openShelf_4 : decode cM_openShelf 4 = .ok (.aload_n 0, 1) := by decide +kernel
theorem dM_openShelf_5 : decode cM_openShelf 5 = .ok (.getfield 40, 3) := by decide +kernel
theorem dM_openShelf_8 : decode cM_openShelf 8 = .ok (.aload_n 0, 1) := by decide +kernel
theorem dM_openShelf_9 : decode cM_openShelf 9 = .ok (.getfield 34, 3) := by decide +kernel
theorem dM_openShelf_12 : decode cM_openShelf 12 = .ok (.iastore, 1) := by decide +kernel
theorem dM_openShelf_13 : decode cM_openShelf 13 = .ok (.aload_n 0, 1) := by decide +kernel
theorem dM_openShelf_14 : decode cM_openShelf 14 = .ok (.getfield 21, 3) := by decide +kernel
theorem dM_openShelf_17 : decode cM_openShelf 17 = .ok (.aload_n 0, 1) := by decide +kernel
theorem dM_openShelf_18 : decode cM_openShelf 18 = .ok (.getfield 40, 3) := by decide +kernel
theorem dM_openShelf_21 : decode cM_openShelf 21 = .ok (.iload_n 1, 1) := by decide +kernel
theorem dM_openShelf_22 : decode cM_openShelf 22 = .ok (.iastore, 1) := by decide +kernel
theorem dM_openShelf_23 : decode cM_openShelf 23 = .ok (.aload_n 0, 1) := by decide +kernel
theorem dM_openShelf_24 : decode cM_openShelf 24 = .ok (.getfield 24, 3) := by decide +kernel
theorem dM_openShelf_27 : decode cM_openShelf 27 = .ok (.aload_n 0, 1) := by decide +kernel
theorem dM_openShelf_28 : decode cM_openShelf 28 = .ok (.getfield 40, 3) := by decide +kernel
theorem dM_openShelf_31 : decode cM_openShelf 31 = .ok (.iconst 0, 1) := by decide +kernel
theorem dM_openShelf_32 : decode cM_openShelf 32 = .ok (.iastore, 1) := by decide +kernel
theorem dM_openShelf_33 : decode cM_openShelf 33 = .ok (.aload_n 0, 1) := by decide +kernel
theorem dM_openShelf_34 : decode cM_openShelf 34 = .ok (.dup, 1) := by decide +kernel
theorem dM_openShelf_35 : decode cM_openShelf 35 = .ok (.getfield 34, 3) := by decide +kernel
theorem dM_openShelf_38 : decode cM_openShelf 38 = .ok (.iload_n 1, 1) := by decide +kernel
theorem dM_openShelf_39 : decode cM_openShelf 39 = .ok (.iadd, 1) := by decide +kernel
theorem dM_openShelf_40 : decode cM_openShelf 40 = .ok (.putfield 34, 3) := by decide +kernel
theorem dM_openShelf_43 : decode cM_openShelf 43 = .ok (.aload_n 0, 1) := by decide +kernel
theorem dM_openShelf_44 : decode cM_openShelf 44 = .ok (.dup, 1) := by decide +kernel
theorem dM_openShelf_45 : decode cM_openShelf 45 = .ok (.getfield 40, 3) := by decide +kernel
theorem dM_openShelf_48 : decode cM_openShelf 48 = .ok (.iconst 1, 1) := by decide +kernel
theorem dM_openShelf_49 : decode cM_openShelf 49 = .ok (.iadd, 1) := by decide +kernel
theorem dM_openShelf_50 : decode cM_openShelf 50 = .ok (.putfield 40, 3) := by decide +kernel
theorem dM_openShelf_53 : decode cM_openShelf 53 = .ok (.return_, 1) := by decide +kernel
theorem dM_alongWidth_0 : decode cM_alongWidth 0 = .ok (.aload_n 0, 1) := by decide +kernel
theorem dM_alongWidth_1 : decode cM_alongWidth 1 = .ok (.getfield 9, 3) := by decide +kernel
theorem dM_alongWidth_4 : decode cM_alongWidth 4 = .ok (.iload_n 1, 1) := by decide +kernel
theorem dM_alongWidth_5 : decode cM_alongWidth 5 = .ok (.iaload, 1) := by decide +kernel
theorem dM_alongWidth_6 : decode cM_alongWidth 6 = .ok (.ireturn, 1) := by decide +kernel
theorem dM_alongDepth_0 : decode cM_alongDepth 0 = .ok (.aload_n 0, 1) := by decide +kernel
theorem dM_alongDepth_1 : decode cM_alongDepth 1 = .ok (.getfield 15, 3) := by decide +kernel
theorem dM_alongDepth_4 : decode cM_alongDepth 4 = .ok (.iload_n 1, 1) := by decide +kernel
theorem dM_alongDepth_5 : decode cM_alongDepth 5 = .ok (.iaload, 1) := by decide +kernel
theorem dM_alongDepth_6 : decode cM_alongDepth 6 = .ok (.ireturn, 1) := by decide +kernel
theorem dJ_compare_0 : decode cJ_compare 0 = .ok (.lload_n 0, 1) := by decide +kernel
theorem dJ_compare_1 : decode cJ_compare 1 = .ok (.lload_n 2, 1) := by decide +kernel
theorem dJ_compare_2 : decode cJ_compare 2 = .ok (.lcmp, 1) := by decide +kernel
theorem dJ_compare_3 : decode cJ_compare 3 = .ok (.ifCond .ge 7, 3) := by decide +kernel
theorem dJ_compare_6 : decode cJ_compare 6 = .ok (.iconst (-1), 1) := by decide +kernel
theorem dJ_compare_7 : decode cJ_compare 7 = .ok (.goto 14, 3) := by decide +kernel
theorem dJ_compare_10 : decode cJ_compare 10 = .ok (.lload_n 0, 1) := by decide +kernel
theorem dJ_compare_11 : decode cJ_compare 11 = .ok (.lload_n 2, 1) := by decide +kernel
theorem dJ_compare_12 : decode cJ_compare 12 = .ok (.lcmp, 1) := by decide +kernel
theorem dJ_compare_13 : decode cJ_compare 13 = .ok (.ifCond .ne 7, 3) := by decide +kernel
theorem dJ_compare_16 : decode cJ_compare 16 = .ok (.iconst 0, 1) := by decide +kernel
theorem dJ_compare_17 : decode cJ_compare 17 = .ok (.goto 4, 3) := by decide +kernel
theorem dJ_compare_20 : decode cJ_compare 20 = .ok (.iconst 1, 1) := by decide +kernel
theorem dJ_compare_21 : decode cJ_compare 21 = .ok (.ireturn, 1) := by decide +kernel
end
section
/-! my own layer: a world is a function from cell numbers to cells; numbers as nI, booleans as b2i -/
noncomputable def b2i (P : Prop) : Int32 := @ite Int32 P (Classical.propDecidable P) 1 0
theorem b2i_t {P : Prop} (h : P) : b2i P = 1 := if_pos h
theorem b2i_f {P : Prop} (h : ¬ P) : b2i P = 0 := if_neg h
theorem b2i_0 {P : Prop} : b2i P = 0 ↔ ¬ P := by
  by_cases h : P
  · rw [b2i_t h]; exact ⟨fun q => absurd q (by decide), fun q => absurd h q⟩
  · rw [b2i_f h]; exact ⟨fun _ => h, fun _ => rfl⟩
theorem b2i_1 {P : Prop} : b2i P = 1 ↔ P := by
  by_cases h : P
  · rw [b2i_t h]; exact ⟨fun _ => h, fun _ => rfl⟩
  · rw [b2i_f h]; exact ⟨fun q => absurd q (by decide), fun q => absurd q h⟩
theorem b2i_c {P Q : Prop} (h : P ↔ Q) : b2i P = b2i Q := by rw [propext h]
theorem b2i_nar (P : Prop) : narrow .boolean (.int (b2i P)) = .int (b2i P) := by
  by_cases h : P
  · rw [b2i_t h]; decide
  · rw [b2i_f h]; decide
theorem b2i_vnar (P : Prop) : vp_nar .boolean (b2i P) = b2i P := by
  by_cases h : P
  · rw [b2i_t h]; decide
  · rw [b2i_f h]; decide
def TB : List Cond := lw_tbl.filter goodWord
theorem tb_mem {w : Cond} (h : w ∈ lw_tbl) (g : goodWord w = true) : w ∈ TB := List.mem_filter.mpr ⟨h, g⟩
theorem tb_at (i : Nat) {w : Cond} (h : lw_tbl[i]? = some w) (g : goodWord w = true) : w ∈ TB := tb_mem (List.mem_of_getElem? h) g
theorem tb_good {w : Cond} (h : w ∈ TB) : (w.onTables && w.keeps) = true ∨ ∃ ty, w = .arrayClass ty := good_of_word (List.mem_filter.mp h).2
/-- a method's words: its code ahead of the table -/
abbrev tbw (y : MethodName) (b : ByteArray) (n : Nat) (r : Option FieldType) : List Cond := Cond.code y b n r :: TB
abbrev gN : Nat := 38
def gF (B0 : Nat) : Nat → Prop := fun q => B0 ≤ q
def gW (D : va_G) (a : Nat → Nat) (w : Nat → va_E) (H : Heap) : Prop := ∀ i, i < gN → va_at D vwCl (a i, w i) H
def gA (B0 : Nat) (a : Nat → Nat) : Prop := (∀ i j, i < gN → j < gN → a i = a j → i = j) ∧ ∀ i, i < gN → B0 ≤ a i
def gT (k : ClassId × ClassId × ClassId) : List (ClassId × FieldType) := [(k.1, .int), (k.2.1, .long), (k.2.2, .boolean)]
def gL (a : Nat → Nat) (w : Nat → va_E) : va_W := (List.range gN).map (fun i => (a i, w i))
theorem gL_at (a : Nat → Nat) (w : Nat → va_E) {i : Nat} (h : i < gN) : (gL a w)[i]? = some (a i, w i) := by
  simp [gL, List.getElem?_map, List.getElem?_range h]
theorem gL_of {a : Nat → Nat} {w : Nat → va_E} {k : Nat} {q : Nat × va_E} (h : (gL a w)[k]? = some q) : k < gN ∧ q = (a k, w k) := by
  by_cases hk : k < gN
  · rw [gL_at a w hk] at h; exact ⟨hk, (Option.some.inj h).symm⟩
  · rw [List.getElem?_eq_none (by simpa [gL] using hk)] at h; cases h
theorem gW_P {D : va_G} {a : Nat → Nat} {w : Nat → va_E} {H : Heap} (h : gW D a w H) : va_P D vwCl (gL a w) H := fun k q hq => by
  obtain ⟨h1, rfl⟩ := gL_of hq
  exact h k h1
theorem gP_W {D : va_G} {a : Nat → Nat} {w : Nat → va_E} {H : Heap} (h : va_P D vwCl (gL a w) H) : gW D a w H := fun i hi => h i _ (gL_at a w hi)
theorem gA_D {B0 : Nat} {a : Nat → Nat} (h : gA B0 a) (w : Nat → va_E) : va_D (gF B0) (gL a w) := by
  refine ⟨fun i j p q hp hq e => ?_, fun k q hq => ?_⟩
  · obtain ⟨h1, rfl⟩ := gL_of hp
    obtain ⟨h2, rfl⟩ := gL_of hq
    exact h.1 i j h1 h2 e
  · obtain ⟨h1, rfl⟩ := gL_of hq
    exact h.2 k h1
theorem gL_set (a : Nat → Nat) (w : Nat → va_E) {i : Nat} (hi : i < gN) (x : va_E) : (gL a w).set i (a i, x) = gL a (va_up w i x) := by
  apply List.ext_getElem?
  intro k
  by_cases hk : k < gN
  · rw [gL_at _ _ hk, List.getElem?_set]
    by_cases e : i = k
    · subst e
      simp [gL, hi, va_up]
    · have e' : ¬ k = i := fun q => e q.symm
      rw [if_neg e, gL_at _ _ hk]; simp [va_up, e']
  · rw [List.getElem?_eq_none (by simpa [gL] using hk), List.getElem?_eq_none (by simpa [gL] using hk)]
theorem gW_kept {D : va_G} {a : Nat → Nat} {w : Nat → va_E} {H H1 : Heap} (h : gW D a w H) (hq : ∀ q, q < H.size → H1[q]? = H[q]?) : gW D a w H1 := fun i hi => (h i hi).kept (hq _ (h i hi).lt)
/-- a contract that changes nothing -/
def roP {α : Type} (E : α) (w : Nat → va_E) : α → (Nat → va_E) → Prop := fun r w1 => r = E ∧ w1 = w
def roV (w : Nat → va_E) : (Nat → va_E) → Prop := fun w1 => True ∧ w1 = w
/-- a contract's start and end -/
def gPc (D : va_G) (k : ClassId × ClassId × ClassId) (a : Nat → Nat) (B0 : Nat) (w : Nat → va_E) (av : List Value) : Array Value → State → Prop := va_Pc av (fun U => B0 ≤ U.heap.size ∧ gW D a w U.heap ∧ va_K D vwCl (gT k) U)
def gB (D : va_G) (k : ClassId × ClassId × ClassId) (a : Nat → Nat) : (Nat → va_E) → State → Prop := fun w t => gW D a w t.heap ∧ va_K D vwCl (gT k) t
theorem gPc_blind {D : va_G} {k : ClassId × ClassId × ClassId} {a : Nat → Nat} {B0 : Nat} {w : Nat → va_E} {av : List Value} : FrameBlind (gPc D k a B0 w av) := fun x U g mk q => by
  obtain ⟨q0, q1, q2, q3⟩ := q
  exact ⟨q0, q1, q2, va_K.moved (u := U) (U := U.calling g mk x) (Vm.Alike.refl U.vm) q3⟩
/-- numbers of the machine told by their class: what a called method needs of the tables -/
def cal (y : MethodName) (b : ByteArray) (maxL : Nat) (ret : Option FieldType) (n : Nat) : Prop := Cond.code y b maxL ret ∈ TB ∧ Cond.initialized y.cls ∈ TB ∧ y.cls ≠ "java/lang/invoke/MethodHandle" ∧ y.cls ≠ "java/lang/invoke/VarHandle" ∧ (parseMethodDescriptor y.desc).map (fun d => d.parameters.length) = some n
def calV (y : MethodName) : Prop := Cond.instanceMethod y ∈ TB ∧ Cond.selects y.cls y y ∈ TB
def calS (y : MethodName) : Prop := Cond.static y ∈ TB
theorem tb_in {y : MethodName} {b : ByteArray} {maxL : Nat} {ret : Option FieldType} (h : Cond.code y b maxL ret ∈ TB) : GoodIn TB (tbw y b maxL ret) := fun w hw => by
  have h1 : w ∈ TB := (List.mem_cons.mp hw).elim (fun e => e ▸ h) id
  exact ⟨h1, tb_good h1⟩
section GCW
variable {R : Room} {s : State} {args : Array Value} {own : String} {index maxL n : Nat} {y : MethodName} {b : ByteArray} {ret : Option FieldType} {rm : Room}
theorem g_cwB (ht : ∀ w ∈ TB, w.before args s = true) (hc : cal y b maxL ret n) (hl : Cond.methodLink own index y ∈ TB) (hR : rm.frames + 1 ≤ R.frames ∧ 8 + (maxL + 11) + rm.locals ≤ R.locals) : CallB R s args own index y b maxL ret (tbw y b maxL ret) rm rm.cells rm.slots n :=
  callB_of n ht (tb_in hc.1) rfl rfl rfl (ht _ hc.2.1) (ht _ hl) hc.2.2 hR
theorem g_cwV (ht : ∀ w ∈ TB, w.before args s = true) (hc : cal y b maxL ret n) (hv : calV y) (hl : Cond.methodLink own index y ∈ TB) (hR : rm.frames + 1 ≤ R.frames ∧ 8 + (maxL + 11) + rm.locals ≤ R.locals) : CallW R s args own y.cls index y b maxL ret (tbw y b maxL ret) rm rm.cells rm.slots n :=
  ⟨g_cwB ht hc hl hR, ht _ hv.1, ht _ hv.2⟩
end GCW
section GOF
variable {l : Launch} {D : va_G} {k : ClassId × ClassId × ClassId} {a : Nat → Nat} {B0 : Nat} {w : Nat → va_E}
/-- the head of a contract -/
theorem g_ofW {y : MethodName} {b : ByteArray} {nL : Nat} {ret : Option FieldType} {rm : Room} {av : List Value} {Qc : Array Value → State → Outcome → State → Prop} {mc ms : Nat} {free : Addr → Prop} (hy : plainName y.cls = true) (hsl : Nat.ble (lg_sl av).length nL = true)
    (body : ∀ (p : Program) (e : Env) (s : State) (m : MethodId) (args : Array Value) (below : List Frame) (meth : Method) (c : Code) (Q : State → Prop), (∀ t, MQ below Qc args s mc ms free t → Q t) → p.tables.exec = Jvm.exec → c.code = b → meth.sig.returnType = ret → meth.locks = false → c.maxLocals = nL → s.vm.findClass y.cls = some m.cls → (∀ w ∈ TB, w.before args s = true) → B0 ≤ s.heap.size → gW D a w s.heap → va_K D vwCl (gT k) s → va_S (gF B0) s.heap s.heap [] → ∀ ls : Array Slot, lv_has ls nL (lv_args 0 av) →
      W p l e rm s m args below meth c s.heap [] 0 0 Q (F0 m 0 ls [])) : Met l y (tbw y b nL ret) rm (gPc D k a B0 w av) Qc mc ms free := by
  refine Met.ofW (cc := b) (maxL := nL) (ret := ret) hy rfl ?_
  intro p e s m args below meth c s₁ B hml hv
  obtain ⟨rfl, h1, h2, h3⟩ := hv
  have hts := atoms_spec (ws := tbw y b nL ret) B.pre
  have hl := lv_entry av (n := nL) (Nat.le_of_ble_eq_true hsl)
  rw [lg_entry_eq]
  exact body p e s m av.toArray below meth c _ (fun _ h => h) B.exec B.bytes B.returns B.notSynchronized hml (findClass_of_methodNamed B.named) (fun w hw => hts w (List.mem_cons_of_mem _ hw)) h1 h2 h3 va_S.rf _ hl
end GOF
section GROWS
variable {p : Program} {l : Launch} {e : Env} {R : Room} {s : State} {m : MethodId} {args : Array Value} {below : List Frame} {meth : Method} {c : Code} {H : Heap} {locs : List Loc} {cells slots : Nat} {Q : State → Prop}
variable {cc : ByteArray} {pc : Nat} {ls : Array Slot} {rest : List Value} {D : va_G} {k : ClassId × ClassId × ClassId} {a : Nat → Nat} {B0 : Nat} {w : Nat → va_E} {H0 : Heap}
/-! numbers that are nI -/
theorem ln_iadd (hx : p.tables.exec = Jvm.exec) (hb : c.code = cc) {x y : Nat} (hdg : decode cc pc = .ok (.iadd, 1)) (kk : W p l e R s m args below meth c H locs cells slots Q (F0 m (pc + 1) ls (.int (nI (x + y)) :: rest))) : W p l e R s m args below meth c H locs cells slots Q (F0 m pc ls (.int (nI y) :: .int (nI x) :: rest)) :=
  lv_iadd hx hb hdg (by rw [nI_add]; exact kk)
theorem ln_imul (hx : p.tables.exec = Jvm.exec) (hb : c.code = cc) {x y : Nat} (hdg : decode cc pc = .ok (.imul, 1)) (kk : W p l e R s m args below meth c H locs cells slots Q (F0 m (pc + 1) ls (.int (nI (x * y)) :: rest))) : W p l e R s m args below meth c H locs cells slots Q (F0 m pc ls (.int (nI y) :: .int (nI x) :: rest)) :=
  lv_imul hx hb hdg (by rw [pk_mul]; exact kk)
theorem ln_isub (hx : p.tables.exec = Jvm.exec) (hb : c.code = cc) {x y : Nat} (hdg : decode cc pc = .ok (.isub, 1)) (hle : y ≤ x) (kk : W p l e R s m args below meth c H locs cells slots Q (F0 m (pc + 1) ls (.int (nI (x - y)) :: rest))) : W p l e R s m args below meth c H locs cells slots Q (F0 m pc ls (.int (nI y) :: .int (nI x) :: rest)) :=
  lv_isub hx hb hdg (by rw [pk_sub hle]; exact kk)
section BR
variable {x y : Nat} {off : Int} {tgt : Nat}
theorem ln_icmp_ge (hx : p.tables.exec = Jvm.exec) (hb : c.code = cc) (hdg : decode cc pc = .ok (.if_icmp .ge off, 3)) (ht : (pc : Int) + off = (tgt : Int)) (h1 : x < 2 ^ 31) (h2 : y < 2 ^ 31) (kt : y ≤ x → W p l e R s m args below meth c H locs cells slots Q (F0 m tgt ls rest)) (kf : x < y → W p l e R s m args below meth c H locs cells slots Q (F0 m (pc + 3) ls rest)) : W p l e R s m args below meth c H locs cells slots Q (F0 m pc ls (.int (nI y) :: .int (nI x) :: rest)) :=
  lv_icmp_ge hx hb hdg ht (fun h => kt ((nI_leI h2 h1).mp h)) (fun h => kf (Nat.not_le.mp fun q => h ((nI_leI h2 h1).mpr q)))
theorem ln_icmp_gt (hx : p.tables.exec = Jvm.exec) (hb : c.code = cc) (hdg : decode cc pc = .ok (.if_icmp .gt off, 3)) (ht : (pc : Int) + off = (tgt : Int)) (h1 : x < 2 ^ 31) (h2 : y < 2 ^ 31) (kt : y < x → W p l e R s m args below meth c H locs cells slots Q (F0 m tgt ls rest)) (kf : x ≤ y → W p l e R s m args below meth c H locs cells slots Q (F0 m (pc + 3) ls rest)) : W p l e R s m args below meth c H locs cells slots Q (F0 m pc ls (.int (nI y) :: .int (nI x) :: rest)) :=
  lv_icmp_gt hx hb hdg ht (fun h => kt ((nI_ltI h2 h1).mp h)) (fun h => kf (Nat.not_lt.mp fun q => h ((nI_ltI h2 h1).mpr q)))
theorem ln_icmp_lt (hx : p.tables.exec = Jvm.exec) (hb : c.code = cc) (hdg : decode cc pc = .ok (.if_icmp .lt off, 3)) (ht : (pc : Int) + off = (tgt : Int)) (h1 : x < 2 ^ 31) (h2 : y < 2 ^ 31) (kt : x < y → W p l e R s m args below meth c H locs cells slots Q (F0 m tgt ls rest)) (kf : y ≤ x → W p l e R s m args below meth c H locs cells slots Q (F0 m (pc + 3) ls rest)) : W p l e R s m args below meth c H locs cells slots Q (F0 m pc ls (.int (nI y) :: .int (nI x) :: rest)) :=
  lv_icmp_lt hx hb hdg ht (fun h => kt ((nI_ltI h1 h2).mp h)) (fun h => kf (Nat.not_lt.mp fun q => h ((nI_ltI h1 h2).mpr q)))
theorem ln_icmp_le (hx : p.tables.exec = Jvm.exec) (hb : c.code = cc) (hdg : decode cc pc = .ok (.if_icmp .le off, 3)) (ht : (pc : Int) + off = (tgt : Int)) (h1 : x < 2 ^ 31) (h2 : y < 2 ^ 31) (kt : x ≤ y → W p l e R s m args below meth c H locs cells slots Q (F0 m tgt ls rest)) (kf : y < x → W p l e R s m args below meth c H locs cells slots Q (F0 m (pc + 3) ls rest)) : W p l e R s m args below meth c H locs cells slots Q (F0 m pc ls (.int (nI y) :: .int (nI x) :: rest)) :=
  lv_icmp_le hx hb hdg ht (fun h => kt ((nI_leI h1 h2).mp h)) (fun h => kf (Nat.not_le.mp fun q => h ((nI_leI h1 h2).mpr q)))
theorem ln_icmp_eq (hx : p.tables.exec = Jvm.exec) (hb : c.code = cc) (hdg : decode cc pc = .ok (.if_icmp .eq off, 3)) (ht : (pc : Int) + off = (tgt : Int)) (h1 : x < 2 ^ 31) (h2 : y < 2 ^ 31) (kt : x = y → W p l e R s m args below meth c H locs cells slots Q (F0 m tgt ls rest)) (kf : ¬ x = y → W p l e R s m args below meth c H locs cells slots Q (F0 m (pc + 3) ls rest)) : W p l e R s m args below meth c H locs cells slots Q (F0 m pc ls (.int (nI y) :: .int (nI x) :: rest)) :=
  lv_icmp_eq hx hb hdg ht (fun h => kt ((nI_eq h1 h2).mp h)) (fun h => kf (fun q => h ((nI_eq h1 h2).mpr q)))
theorem ln_icmp_ne (hx : p.tables.exec = Jvm.exec) (hb : c.code = cc) (hdg : decode cc pc = .ok (.if_icmp .ne off, 3)) (ht : (pc : Int) + off = (tgt : Int)) (h1 : x < 2 ^ 31) (h2 : y < 2 ^ 31) (kt : ¬ x = y → W p l e R s m args below meth c H locs cells slots Q (F0 m tgt ls rest)) (kf : x = y → W p l e R s m args below meth c H locs cells slots Q (F0 m (pc + 3) ls rest)) : W p l e R s m args below meth c H locs cells slots Q (F0 m pc ls (.int (nI y) :: .int (nI x) :: rest)) :=
  lv_icmp_ne hx hb hdg ht (fun h => kt (fun q => h ((nI_eq h1 h2).mpr q))) (fun h => kf ((nI_eq h1 h2).mp h))
theorem ln_if_lt (hx : p.tables.exec = Jvm.exec) (hb : c.code = cc) (hdg : decode cc pc = .ok (.ifCond .lt off, 3)) (ht : (pc : Int) + off = (tgt : Int)) (h1 : x < 2 ^ 31) (kf : W p l e R s m args below meth c H locs cells slots Q (F0 m (pc + 3) ls rest)) : W p l e R s m args below meth c H locs cells slots Q (F0 m pc ls (.int (nI x) :: rest)) :=
  lv_if_lt hx hb hdg ht (fun h => absurd h (nI_pos h1)) (fun _ => kf)
theorem ln_if_ge (hx : p.tables.exec = Jvm.exec) (hb : c.code = cc) (hdg : decode cc pc = .ok (.ifCond .ge off, 3)) (ht : (pc : Int) + off = (tgt : Int)) (h1 : x < 2 ^ 31) (kt : W p l e R s m args below meth c H locs cells slots Q (F0 m tgt ls rest)) : W p l e R s m args below meth c H locs cells slots Q (F0 m pc ls (.int (nI x) :: rest)) :=
  lv_if_ge hx hb hdg ht (fun _ => kt) (fun h => absurd (nI_pos' h1) h)
theorem ln_if_eq (hx : p.tables.exec = Jvm.exec) (hb : c.code = cc) (hdg : decode cc pc = .ok (.ifCond .eq off, 3)) (ht : (pc : Int) + off = (tgt : Int)) (h1 : x < 2 ^ 31) (kt : x = 0 → W p l e R s m args below meth c H locs cells slots Q (F0 m tgt ls rest)) (kf : ¬ x = 0 → W p l e R s m args below meth c H locs cells slots Q (F0 m (pc + 3) ls rest)) : W p l e R s m args below meth c H locs cells slots Q (F0 m pc ls (.int (nI x) :: rest)) :=
  lv_if_eq hx hb hdg ht (fun h => kt ((nI_eq h1 (by decide)).mp (h.trans nI_0.symm))) (fun h => kf (fun q => h (by rw [q]; exact nI_0)))
theorem ln_if_ne (hx : p.tables.exec = Jvm.exec) (hb : c.code = cc) (hdg : decode cc pc = .ok (.ifCond .ne off, 3)) (ht : (pc : Int) + off = (tgt : Int)) (h1 : x < 2 ^ 31) (kt : ¬ x = 0 → W p l e R s m args below meth c H locs cells slots Q (F0 m tgt ls rest)) (kf : x = 0 → W p l e R s m args below meth c H locs cells slots Q (F0 m (pc + 3) ls rest)) : W p l e R s m args below meth c H locs cells slots Q (F0 m pc ls (.int (nI x) :: rest)) :=
  lv_if_ne hx hb hdg ht (fun h => kt (fun q => h (by rw [q]; exact nI_0))) (fun h => kf ((nI_eq h1 (by decide)).mp (h.trans nI_0.symm)))
theorem ln_if_gt (hx : p.tables.exec = Jvm.exec) (hb : c.code = cc) (hdg : decode cc pc = .ok (.ifCond .gt off, 3)) (ht : (pc : Int) + off = (tgt : Int)) (h1 : x < 2 ^ 31) (kt : 0 < x → W p l e R s m args below meth c H locs cells slots Q (F0 m tgt ls rest)) (kf : x = 0 → W p l e R s m args below meth c H locs cells slots Q (F0 m (pc + 3) ls rest)) : W p l e R s m args below meth c H locs cells slots Q (F0 m pc ls (.int (nI x) :: rest)) :=
  lv_if_gt hx hb hdg ht (fun h => kt (by
    rcases Nat.eq_zero_or_pos x with q | q
    · rw [q, nI_0] at h; exact absurd h (by decide)
    · exact q)) (fun h => kf (by
    rcases Nat.eq_zero_or_pos x with q | q
    · exact q
    · exact absurd (by have := nI_lt q h1; rwa [nI_0] at this) h))
theorem ln_if_le (hx : p.tables.exec = Jvm.exec) (hb : c.code = cc) (hdg : decode cc pc = .ok (.ifCond .le off, 3)) (ht : (pc : Int) + off = (tgt : Int)) (h1 : x < 2 ^ 31) (kt : x = 0 → W p l e R s m args below meth c H locs cells slots Q (F0 m tgt ls rest)) (kf : 0 < x → W p l e R s m args below meth c H locs cells slots Q (F0 m (pc + 3) ls rest)) : W p l e R s m args below meth c H locs cells slots Q (F0 m pc ls (.int (nI x) :: rest)) :=
  lv_if_le hx hb hdg ht (fun h => kt (by
    rcases Nat.eq_zero_or_pos x with q | q
    · exact q
    · exact absurd h (nI_nle q h1))) (fun h => kf (by
    rcases Nat.eq_zero_or_pos x with q | q
    · rw [q, nI_0] at h; exact absurd (by decide) h
    · exact q))
theorem lb_if_eq (hx : p.tables.exec = Jvm.exec) (hb : c.code = cc) {P : Prop} (hdg : decode cc pc = .ok (.ifCond .eq off, 3)) (ht : (pc : Int) + off = (tgt : Int)) (kt : ¬ P → W p l e R s m args below meth c H locs cells slots Q (F0 m tgt ls rest)) (kf : P → W p l e R s m args below meth c H locs cells slots Q (F0 m (pc + 3) ls rest)) : W p l e R s m args below meth c H locs cells slots Q (F0 m pc ls (.int (b2i P) :: rest)) :=
  lv_if_eq hx hb hdg ht (fun h => kt (b2i_0.mp h)) (fun h => kf (Classical.not_not.mp fun q => h (b2i_0.mpr q)))
theorem lb_if_ne (hx : p.tables.exec = Jvm.exec) (hb : c.code = cc) {P : Prop} (hdg : decode cc pc = .ok (.ifCond .ne off, 3)) (ht : (pc : Int) + off = (tgt : Int)) (kt : P → W p l e R s m args below meth c H locs cells slots Q (F0 m tgt ls rest)) (kf : ¬ P → W p l e R s m args below meth c H locs cells slots Q (F0 m (pc + 3) ls rest)) : W p l e R s m args below meth c H locs cells slots Q (F0 m pc ls (.int (b2i P) :: rest)) :=
  lv_if_ne hx hb hdg ht (fun h => kt (Classical.not_not.mp fun q => h (b2i_0.mpr q))) (fun h => kf (b2i_0.mp h))
end BR
theorem lc_if_eq (hx : p.tables.exec = Jvm.exec) (hb : c.code = cc) {x y : Int64} {off : Int} {tgt : Nat} (hdg : decode cc pc = .ok (.ifCond .eq off, 3)) (ht : (pc : Int) + off = (tgt : Int)) (kt : x = y → W p l e R s m args below meth c H locs cells slots Q (F0 m tgt ls rest)) (kf : ¬ x = y → W p l e R s m args below meth c H locs cells slots Q (F0 m (pc + 3) ls rest)) : W p l e R s m args below meth c H locs cells slots Q (F0 m pc ls (.int (lg_cmp x y) :: rest)) :=
  lv_if_eq hx hb hdg ht (fun h => kt ((lg_cmp_eq x y).mp h)) (fun h => kf (fun q => h ((lg_cmp_eq x y).mpr q)))
theorem lc_if_ne (hx : p.tables.exec = Jvm.exec) (hb : c.code = cc) {x y : Int64} {off : Int} {tgt : Nat} (hdg : decode cc pc = .ok (.ifCond .ne off, 3)) (ht : (pc : Int) + off = (tgt : Int)) (kt : ¬ x = y → W p l e R s m args below meth c H locs cells slots Q (F0 m tgt ls rest)) (kf : x = y → W p l e R s m args below meth c H locs cells slots Q (F0 m (pc + 3) ls rest)) : W p l e R s m args below meth c H locs cells slots Q (F0 m pc ls (.int (lg_cmp x y) :: rest)) :=
  lv_if_ne hx hb hdg ht (fun h => kt (fun q => h ((lg_cmp_eq x y).mpr q))) (fun h => kf ((lg_cmp_eq x y).mp h))
theorem lc_if_lt (hx : p.tables.exec = Jvm.exec) (hb : c.code = cc) {x y : Int64} {off : Int} {tgt : Nat} (hdg : decode cc pc = .ok (.ifCond .lt off, 3)) (ht : (pc : Int) + off = (tgt : Int)) (kt : x < y → W p l e R s m args below meth c H locs cells slots Q (F0 m tgt ls rest)) (kf : y ≤ x → W p l e R s m args below meth c H locs cells slots Q (F0 m (pc + 3) ls rest)) : W p l e R s m args below meth c H locs cells slots Q (F0 m pc ls (.int (lg_cmp x y) :: rest)) :=
  lv_if_lt hx hb hdg ht (fun h => kt ((lg_cmp_lt x y).mp h)) (fun h => kf (Int64.not_lt.mp fun q => h ((lg_cmp_lt x y).mpr q)))
theorem lc_if_ge (hx : p.tables.exec = Jvm.exec) (hb : c.code = cc) {x y : Int64} {off : Int} {tgt : Nat} (hdg : decode cc pc = .ok (.ifCond .ge off, 3)) (ht : (pc : Int) + off = (tgt : Int)) (kt : y ≤ x → W p l e R s m args below meth c H locs cells slots Q (F0 m tgt ls rest)) (kf : x < y → W p l e R s m args below meth c H locs cells slots Q (F0 m (pc + 3) ls rest)) : W p l e R s m args below meth c H locs cells slots Q (F0 m pc ls (.int (lg_cmp x y) :: rest)) :=
  lv_if_ge hx hb hdg ht (fun h => kt ((lg_cmp_ge x y).mp h)) (fun h => kf (Int64.not_le.mp fun q => h ((lg_cmp_ge x y).mpr q)))
theorem lc_if_gt (hx : p.tables.exec = Jvm.exec) (hb : c.code = cc) {x y : Int64} {off : Int} {tgt : Nat} (hdg : decode cc pc = .ok (.ifCond .gt off, 3)) (ht : (pc : Int) + off = (tgt : Int)) (kt : y < x → W p l e R s m args below meth c H locs cells slots Q (F0 m tgt ls rest)) (kf : x ≤ y → W p l e R s m args below meth c H locs cells slots Q (F0 m (pc + 3) ls rest)) : W p l e R s m args below meth c H locs cells slots Q (F0 m pc ls (.int (lg_cmp x y) :: rest)) :=
  lv_if_gt hx hb hdg ht (fun h => kt ((lg_cmp_gt x y).mp h)) (fun h => kf (Int64.not_lt.mp fun q => h ((lg_cmp_gt x y).mpr q)))
theorem lc_if_le (hx : p.tables.exec = Jvm.exec) (hb : c.code = cc) {x y : Int64} {off : Int} {tgt : Nat} (hdg : decode cc pc = .ok (.ifCond .le off, 3)) (ht : (pc : Int) + off = (tgt : Int)) (kt : x ≤ y → W p l e R s m args below meth c H locs cells slots Q (F0 m tgt ls rest)) (kf : y < x → W p l e R s m args below meth c H locs cells slots Q (F0 m (pc + 3) ls rest)) : W p l e R s m args below meth c H locs cells slots Q (F0 m pc ls (.int (lg_cmp x y) :: rest)) :=
  lv_if_le hx hb hdg ht (fun h => kt ((lg_cmp_le x y).mp h)) (fun h => kf (Int64.not_le.mp fun q => h ((lg_cmp_le x y).mpr q)))
/-! the world's cells -/
theorem g_get (hx : p.tables.exec = Jvm.exec) (hb : c.code = cc) {own C : String} {T : u_T} {N ci index : Nat} (hts : ∀ w ∈ TB, w.before args s = true) (hin : ∀ w ∈ u_ws C T N, w ∈ TB) (hown : s.vm.findClass own = some m.cls) (hK : va_K D vwCl (gT k) s) (hG : gW D a w H) (i : Nat) (hi : i < gN) {fs : List Value} (he : w i = .inr (ci, fs)) (hc : vwCl[ci]? = some (C, T, N)) (j : Nat) (hj : j < N) (hlink : Cond.fieldLink own index (T j).1 (T j).2.1 (T j).2.2.1 ∈ TB) {v : Value} (hv : fs[j]? = some v) (hdg : decode cc pc = .ok (.getfield index, 3))
    (kk : W p l e R s m args below meth c H locs cells slots Q (F0 m (pc + 3) ls (v :: rest))) : W p l e R s m args below meth c H locs cells slots Q (F0 m pc ls (.ref (a i) :: rest)) :=
  va_get (D := D) (ws := [(a i, .inr (ci, fs))]) hx hb hts hin hown hK (fun z q hq => by
    match z, hq with
    | 0, hq => cases hq; have h9 := hG i hi; rw [he] at h9; exact h9
    | z + 1, hq => simp at hq) 0 rfl hc j hj (hts _ hlink) (fun _ h => h) hv hdg kk
theorem g_put (hx : p.tables.exec = Jvm.exec) (hb : c.code = cc) {own C : String} {T : u_T} {N ci index : Nat} (hts : ∀ w ∈ TB, w.before args s = true) (hin : ∀ w ∈ u_ws C T N, w ∈ TB) (ty0 : Nat → FieldType) (hty : ∀ j, j < N → parseFieldDescriptor (T j).2.2.1 = some (ty0 j)) (hnm : ∀ a, a < N → ∀ b, b < N → a ≠ b → (T a).2.1 ≠ (T b).2.1) (hown : s.vm.findClass own = some m.cls) (hK : va_K D vwCl (gT k) s) (hA : gA B0 a) (hG : gW D a w H) (hS : va_S (gF B0) H0 H locs) (i : Nat) (hi : i < gN) {fs : List Value} (he : w i = .inr (ci, fs)) (hc : vwCl[ci]? = some (C, T, N)) (j : Nat) (hj : j < N) (hlink : Cond.fieldLink own index (T j).1 (T j).2.1 (T j).2.2.1 ∈ TB) (hfin : (T j).2.2.2 = false) {ty : FieldType} {v : Value} (hd : parseFieldDescriptor (T j).2.2.1 = some ty) (hn : narrow ty v = v) (hfit : fits ty v = true) (hl : j < fs.length) (hdg : decode cc pc = .ok (.putfield index, 3))
    (kk : ∀ (H1 : Heap) (locs1 : List Loc), gW D a (va_up w i (.inr (ci, fs.set j v))) H1 → va_S (gF B0) H0 H1 locs1 → W p l e R s m args below meth c H1 locs1 cells slots Q (F0 m (pc + 3) ls rest)) : W p l e R s m args below meth c H locs cells slots Q (F0 m pc ls (v :: .ref (a i) :: rest)) :=
  va_put (D := D) (ws := gL a w) hx hb hts hin ty0 hty hnm hown hK (gW_P hG) (gA_D hA w) hS i ((gL_at a w hi).trans (by rw [he])) hc j hj (hts _ hlink) (fun _ h => h) hfin hd hn hfit hl hdg (fun H1 locs1 hP _ hS1 => kk H1 locs1 (gP_W (by rw [← gL_set a w hi]; exact hP)) hS1)
theorem g_one (hG : gW D a w H) {i : Nat} (hi : i < gN) {x : va_E} (he : w i = x) : va_P D vwCl [(a i, x)] H := fun z q hq => by
  match z, hq with
  | 0, hq => cases hq; have h9 := hG i hi; rw [he] at h9; exact h9
  | z + 1, hq => simp at hq
theorem g_iald (hx : p.tables.exec = Jvm.exec) (hb : c.code = cc) (hK : va_K D vwCl (gT k) s) (hG : gW D a w H) (i : Nat) (hi : i < gN) {n : Nat} {f : Nat → Int32} (he : w i = .inl (k.1, n, .inl f)) {j : Nat} (hj : j < n) (hn : n < 2 ^ 31) (hdg : decode cc pc = .ok (.iaload, 1))
    (kk : W p l e R s m args below meth c H locs cells slots Q (F0 m (pc + 1) ls (.int (f j) :: rest))) : W p l e R s m args below meth c H locs cells slots Q (F0 m pc ls (.int (nI j) :: .ref (a i) :: rest)) :=
  va_iald hx hb hK (g_one hG hi he) 0 0 rfl rfl (vp_in_nI hj hn) hdg (by rw [nI_clamp (Nat.lt_trans hj hn)]; exact kk)
theorem g_lald (hx : p.tables.exec = Jvm.exec) (hb : c.code = cc) (hK : va_K D vwCl (gT k) s) (hG : gW D a w H) (i : Nat) (hi : i < gN) {n : Nat} {f : Nat → Int64} (he : w i = .inl (k.2.1, n, .inr (.inl f))) {j : Nat} (hj : j < n) (hn : n < 2 ^ 31) (hdg : decode cc pc = .ok (.laload, 1))
    (kk : W p l e R s m args below meth c H locs cells slots Q (F0 m (pc + 1) ls (.long (f j) :: rest))) : W p l e R s m args below meth c H locs cells slots Q (F0 m pc ls (.int (nI j) :: .ref (a i) :: rest)) :=
  va_lald hx hb hK (g_one hG hi he) 0 1 rfl rfl (vp_in_nI hj hn) hdg (by rw [nI_clamp (Nat.lt_trans hj hn)]; exact kk)
theorem g_zald (hx : p.tables.exec = Jvm.exec) (hb : c.code = cc) (hK : va_K D vwCl (gT k) s) (hG : gW D a w H) (i : Nat) (hi : i < gN) {n : Nat} {f : Nat → Int32} (he : w i = .inl (k.2.2, n, .inl f)) {j : Nat} (hj : j < n) (hn : n < 2 ^ 31) (hdg : decode cc pc = .ok (.baload, 1))
    (kk : W p l e R s m args below meth c H locs cells slots Q (F0 m (pc + 1) ls (.int (f j) :: rest))) : W p l e R s m args below meth c H locs cells slots Q (F0 m pc ls (.int (nI j) :: .ref (a i) :: rest)) :=
  va_zald hx hb hK (g_one hG hi he) 0 2 rfl rfl (vp_in_nI hj hn) hdg (by rw [nI_clamp (Nat.lt_trans hj hn)]; exact kk)
theorem g_iast (hx : p.tables.exec = Jvm.exec) (hb : c.code = cc) (hK : va_K D vwCl (gT k) s) (hA : gA B0 a) (hG : gW D a w H) (hS : va_S (gF B0) H0 H locs) (i : Nat) (hi : i < gN) {n : Nat} {f : Nat → Int32} (he : w i = .inl (k.1, n, .inl f)) {j : Nat} {x : Int32} (hj : j < n) (hn : n < 2 ^ 31) (hdg : decode cc pc = .ok (.iastore, 1))
    (kk : ∀ (H1 : Heap) (locs1 : List Loc), gW D a (va_up w i (.inl (k.1, n, .inl (upd f j x)))) H1 → va_S (gF B0) H0 H1 locs1 → W p l e R s m args below meth c H1 locs1 cells slots Q (F0 m (pc + 1) ls rest)) : W p l e R s m args below meth c H locs cells slots Q (F0 m pc ls (.int x :: .int (nI j) :: .ref (a i) :: rest)) :=
  va_iast (ws := gL a w) hx hb hK (gW_P hG) (gA_D hA w) hS i 0 ((gL_at a w hi).trans (by rw [he])) rfl (vp_in_nI hj hn) hdg (fun H1 locs1 hP _ hS1 => kk H1 locs1 (gP_W (by rw [← gL_set a w hi]; rw [nI_clamp (Nat.lt_trans hj hn)] at hP; exact hP)) hS1)
theorem g_last (hx : p.tables.exec = Jvm.exec) (hb : c.code = cc) (hK : va_K D vwCl (gT k) s) (hA : gA B0 a) (hG : gW D a w H) (hS : va_S (gF B0) H0 H locs) (i : Nat) (hi : i < gN) {n : Nat} {f : Nat → Int64} (he : w i = .inl (k.2.1, n, .inr (.inl f))) {j : Nat} {x : Int64} (hj : j < n) (hn : n < 2 ^ 31) (hdg : decode cc pc = .ok (.lastore, 1))
    (kk : ∀ (H1 : Heap) (locs1 : List Loc), gW D a (va_up w i (.inl (k.2.1, n, .inr (.inl (vp_updL f j x))))) H1 → va_S (gF B0) H0 H1 locs1 → W p l e R s m args below meth c H1 locs1 cells slots Q (F0 m (pc + 1) ls rest)) : W p l e R s m args below meth c H locs cells slots Q (F0 m pc ls (.long x :: .int (nI j) :: .ref (a i) :: rest)) :=
  va_last (ws := gL a w) hx hb hK (gW_P hG) (gA_D hA w) hS i 1 ((gL_at a w hi).trans (by rw [he])) rfl (vp_in_nI hj hn) hdg (fun H1 locs1 hP _ hS1 => kk H1 locs1 (gP_W (by rw [← gL_set a w hi]; rw [nI_clamp (Nat.lt_trans hj hn)] at hP; exact hP)) hS1)
theorem g_zast (hx : p.tables.exec = Jvm.exec) (hb : c.code = cc) (hK : va_K D vwCl (gT k) s) (hA : gA B0 a) (hG : gW D a w H) (hS : va_S (gF B0) H0 H locs) (i : Nat) (hi : i < gN) {n : Nat} {f : Nat → Int32} (he : w i = .inl (k.2.2, n, .inl f)) {j : Nat} {P : Prop} (hj : j < n) (hn : n < 2 ^ 31) (hdg : decode cc pc = .ok (.bastore, 1))
    (kk : ∀ (H1 : Heap) (locs1 : List Loc), gW D a (va_up w i (.inl (k.2.2, n, .inl (upd f j (b2i P))))) H1 → va_S (gF B0) H0 H1 locs1 → W p l e R s m args below meth c H1 locs1 cells slots Q (F0 m (pc + 1) ls rest)) : W p l e R s m args below meth c H locs cells slots Q (F0 m pc ls (.int (b2i P) :: .int (nI j) :: .ref (a i) :: rest)) :=
  va_zast (ws := gL a w) hx hb hK (gW_P hG) (gA_D hA w) hS i 2 ((gL_at a w hi).trans (by rw [he])) rfl (vp_in_nI hj hn) hdg (fun H1 locs1 hP _ hS1 => kk H1 locs1 (gP_W (by rw [← gL_set a w hi]; rw [nI_clamp (Nat.lt_trans hj hn), b2i_vnar] at hP; exact hP)) hS1)
/-! the ends -/
theorem g_iret {mc ms : Nat} {post : Int32 → (Nat → va_E) → Prop} {v : Int32} (hQ : ∀ t, MQ below (va_Qi post (gB D k a) (gF B0)) args s mc ms (gF B0) t → Q t) (hx : p.tables.exec = Jvm.exec) (hb : c.code = cc) (hr : meth.sig.returnType = some .int) (hlk : meth.locks = false) (hG : gW D a w H) (hK : va_K D vwCl (gT k) s) (hS : va_S (gF B0) s.heap H locs) (h1 : cells ≤ mc) (h2 : slots ≤ ms) (hq : post v w) (hdg : decode cc pc = .ok (.ireturn, 1)) : W p l e R s m args below meth c H locs cells slots Q (F0 m pc ls [.int v]) := fun T hT X => by
  obtain ⟨t, a1, b1⟩ := (W.widen h1 h2 (W.iret (v := v) (Qc := va_Qi post (gB D k a) (gF B0)) (free := gF B0) hx hb hr (fun t ht hW => ⟨⟨v, w, rfl, hq, by rw [ht]; exact hG, va_K.moved hW.alike hK⟩, hS.F ht⟩) hS.2.2 hdg hlk)) T hT X
  exact ⟨t, a1, hQ t b1⟩
theorem g_zret {mc ms : Nat} {post : Int32 → (Nat → va_E) → Prop} {v : Int32} (hQ : ∀ t, MQ below (va_Qi post (gB D k a) (gF B0)) args s mc ms (gF B0) t → Q t) (hx : p.tables.exec = Jvm.exec) (hb : c.code = cc) (hr : meth.sig.returnType = some .boolean) (hlk : meth.locks = false) (hG : gW D a w H) (hK : va_K D vwCl (gT k) s) (hS : va_S (gF B0) s.heap H locs) (h1 : cells ≤ mc) (h2 : slots ≤ ms) (hn : narrow .boolean (.int v) = .int v) (hq : post v w) (hdg : decode cc pc = .ok (.ireturn, 1)) : W p l e R s m args below meth c H locs cells slots Q (F0 m pc ls [.int v]) := fun T hT X => by
  obtain ⟨t, a1, b1⟩ := (W.widen h1 h2 (W.zret (v := v) (Qc := va_Qi post (gB D k a) (gF B0)) (free := gF B0) hx hb hr hn (fun t ht hW => ⟨⟨v, w, rfl, hq, by rw [ht]; exact hG, va_K.moved hW.alike hK⟩, hS.F ht⟩) hS.2.2 hdg hlk)) T hT X
  exact ⟨t, a1, hQ t b1⟩
theorem g_lret {mc ms : Nat} {post : Int64 → (Nat → va_E) → Prop} {v : Int64} (hQ : ∀ t, MQ below (va_Ql post (gB D k a) (gF B0)) args s mc ms (gF B0) t → Q t) (hx : p.tables.exec = Jvm.exec) (hb : c.code = cc) (hr : meth.sig.returnType = some .long) (hlk : meth.locks = false) (hG : gW D a w H) (hK : va_K D vwCl (gT k) s) (hS : va_S (gF B0) s.heap H locs) (h1 : cells ≤ mc) (h2 : slots ≤ ms) (hq : post v w) (hdg : decode cc pc = .ok (.lreturn, 1)) : W p l e R s m args below meth c H locs cells slots Q (F0 m pc ls [.long v]) := fun T hT X => by
  obtain ⟨t, a1, b1⟩ := (W.widen h1 h2 (W.lret (v := v) (Qc := va_Ql post (gB D k a) (gF B0)) (free := gF B0) hx hb hr (fun t ht hW => ⟨⟨v, w, rfl, hq, by rw [ht]; exact hG, va_K.moved hW.alike hK⟩, hS.F ht⟩) hS.2.2 hdg hlk)) T hT X
  exact ⟨t, a1, hQ t b1⟩
theorem g_vret {mc ms : Nat} {post : (Nat → va_E) → Prop} (hQ : ∀ t, MQ below (va_Qv post (gB D k a) (gF B0)) args s mc ms (gF B0) t → Q t) (hx : p.tables.exec = Jvm.exec) (hb : c.code = cc) (hr : meth.sig.returnType = none) (hlk : meth.locks = false) (hG : gW D a w H) (hK : va_K D vwCl (gT k) s) (hS : va_S (gF B0) s.heap H locs) (h1 : cells ≤ mc) (h2 : slots ≤ ms) (hq : post w) (hdg : decode cc pc = .ok (.return_, 1)) : W p l e R s m args below meth c H locs cells slots Q (F0 m pc ls []) := fun T hT X => by
  obtain ⟨t, a1, b1⟩ := (W.widen h1 h2 (W.vret (Qc := va_Qv post (gB D k a) (gF B0)) (free := gF B0) hx hb hr (fun t ht hW => ⟨⟨w, rfl, hq, by rw [ht]; exact hG, va_K.moved hW.alike hK⟩, hS.F ht⟩) hS.2.2 hdg hlk)) T hT X
  exact ⟨t, a1, hQ t b1⟩
end GROWS
end
section
section GCALLS
variable {p : Program} {l : Launch} {e : Env} {R : Room} {s : State} {m : MethodId} {args : Array Value} {below : List Frame} {meth : Method} {c : Code} {H : Heap} {locs : List Loc} {cells slots : Nat} {Q : State → Prop}
variable {cc : ByteArray} {pc : Nat} {ls : Array Slot} {rest st As : List Value} {D : va_G} {k : ClassId × ClassId × ClassId} {a : Nat → Nat} {B0 : Nat} {w : Nat → va_E}
variable {y : MethodName} {b : ByteArray} {maxL nL n index : Nat} {ret : Option FieldType} {rm : Room} {own : String}
theorem g_Vi {post : Int32 → (Nat → va_E) → Prop} {i : Nat} (hM : Met l y (tbw y b maxL ret) rm (gPc D k a B0 w (.ref (a i) :: As)) (va_Qi post (gB D k a) (gF B0)) rm.cells rm.slots (gF B0)) (hc : cal y b maxL ret n) (hv : calV y) (hl : Cond.methodLink own index y ∈ TB) (hx : p.tables.exec = Jvm.exec) (hb : c.code = cc) (hml : c.maxLocals = nL) (hown : s.vm.findClass own = some m.cls) (hts : ∀ w ∈ TB, w.before args s = true) (hB : B0 ≤ s.heap.size) (hG : gW D a w H) (hK : va_K D vwCl (gT k) s) (hS : va_S (gF B0) s.heap H locs)
    (hi : i < gN) {ci : Nat} {fs : List Value} {T : u_T} {N : Nat} (he : w i = .inr (ci, fs)) (hcl : vwCl[ci]? = some (y.cls, T, N)) (hR : rm.frames + 1 ≤ R.frames ∧ 8 + (maxL + 11) + rm.locals ≤ R.locals) (hn : As.length = n) (hsz : ls.size = nL) (hst : st = As.reverse ++ .ref (a i) :: rest) (hW : (rest.map fun v => v.category).sum ≤ 8) (hdg : decode cc pc = .ok (.invokevirtual index, 3)) (hf : cells + rm.cells ≤ R.cells ∧ slots + rm.slots ≤ R.slots)
    (kk : ∀ (r : Int32) (w1 : Nat → va_E) (H1 : Heap) (locs1 : List Loc), post r w1 → gW D a w1 H1 → va_S (gF B0) s.heap H1 locs1 → W p l e R s m args below meth c H1 locs1 (cells + rm.cells) (slots + rm.slots) Q (F0 m (pc + 3) ls (.int r :: rest))) : W p l e R s m args below meth c H locs cells slots Q (F0 m pc ls st) := by
  subst hst
  refine va_calli (va_runV (As := As) (rest := rest) ⟨hx, hb, hml, hown, hts⟩ hM (g_cwV hts hc hv hl hR) ⟨gPc_blind, va_recv hK (g_one hG hi he) (q0 := 0) hcl rfl, fun U hU hW => ⟨rfl, by rw [hU]; exact Nat.le_trans hB hS.1, by rw [hU]; exact hG, va_K.moved hW.alike hK⟩⟩ rfl hn hsz rfl (lv_room hW) hdg hf) hS (fun q _ h => h) (fun q h => h) (fun r u t H1 locs1 ht hvm hp hB hz hk hS1 => kk r u H1 locs1 hp (by rw [← ht]; exact hB.1) hS1)
theorem g_Si {post : Int32 → (Nat → va_E) → Prop} (hM : Met l y (tbw y b maxL ret) rm (gPc D k a B0 w (As)) (va_Qi post (gB D k a) (gF B0)) rm.cells rm.slots (gF B0)) (hc : cal y b maxL ret n) (hv : calS y) (hl : Cond.methodLink own index y ∈ TB) (hx : p.tables.exec = Jvm.exec) (hb : c.code = cc) (hml : c.maxLocals = nL) (hown : s.vm.findClass own = some m.cls) (hts : ∀ w ∈ TB, w.before args s = true) (hB : B0 ≤ s.heap.size) (hG : gW D a w H) (hK : va_K D vwCl (gT k) s) (hS : va_S (gF B0) s.heap H locs)
    (hR : rm.frames + 1 ≤ R.frames ∧ 8 + (maxL + 11) + rm.locals ≤ R.locals) (hn : As.length = n) (hsz : ls.size = nL) (hst : st = As.reverse ++ rest) (hW : (rest.map fun v => v.category).sum ≤ 8) (hdg : decode cc pc = .ok (.invokestatic index, 3)) (hf : cells + rm.cells ≤ R.cells ∧ slots + rm.slots ≤ R.slots)
    (kk : ∀ (r : Int32) (w1 : Nat → va_E) (H1 : Heap) (locs1 : List Loc), post r w1 → gW D a w1 H1 → va_S (gF B0) s.heap H1 locs1 → W p l e R s m args below meth c H1 locs1 (cells + rm.cells) (slots + rm.slots) Q (F0 m (pc + 3) ls (.int r :: rest))) : W p l e R s m args below meth c H locs cells slots Q (F0 m pc ls st) := by
  subst hst
  refine va_calli (va_runS (As := As) (rest := rest) ⟨hx, hb, hml, hown, hts⟩ hM (⟨g_cwB hts hc hl hR, hts _ hv⟩) ⟨gPc_blind, fun U hU hW => ⟨rfl, by rw [hU]; exact Nat.le_trans hB hS.1, by rw [hU]; exact hG, va_K.moved hW.alike hK⟩⟩ rfl hn hsz rfl (lv_room hW) hdg hf) hS (fun q _ h => h) (fun q h => h) (fun r u t H1 locs1 ht hvm hp hB hz hk hS1 => kk r u H1 locs1 hp (by rw [← ht]; exact hB.1) hS1)
theorem g_Vl {post : Int64 → (Nat → va_E) → Prop} {i : Nat} (hM : Met l y (tbw y b maxL ret) rm (gPc D k a B0 w (.ref (a i) :: As)) (va_Ql post (gB D k a) (gF B0)) rm.cells rm.slots (gF B0)) (hc : cal y b maxL ret n) (hv : calV y) (hl : Cond.methodLink own index y ∈ TB) (hx : p.tables.exec = Jvm.exec) (hb : c.code = cc) (hml : c.maxLocals = nL) (hown : s.vm.findClass own = some m.cls) (hts : ∀ w ∈ TB, w.before args s = true) (hB : B0 ≤ s.heap.size) (hG : gW D a w H) (hK : va_K D vwCl (gT k) s) (hS : va_S (gF B0) s.heap H locs)
    (hi : i < gN) {ci : Nat} {fs : List Value} {T : u_T} {N : Nat} (he : w i = .inr (ci, fs)) (hcl : vwCl[ci]? = some (y.cls, T, N)) (hR : rm.frames + 1 ≤ R.frames ∧ 8 + (maxL + 11) + rm.locals ≤ R.locals) (hn : As.length = n) (hsz : ls.size = nL) (hst : st = As.reverse ++ .ref (a i) :: rest) (hW : (rest.map fun v => v.category).sum ≤ 8) (hdg : decode cc pc = .ok (.invokevirtual index, 3)) (hf : cells + rm.cells ≤ R.cells ∧ slots + rm.slots ≤ R.slots)
    (kk : ∀ (r : Int64) (w1 : Nat → va_E) (H1 : Heap) (locs1 : List Loc), post r w1 → gW D a w1 H1 → va_S (gF B0) s.heap H1 locs1 → W p l e R s m args below meth c H1 locs1 (cells + rm.cells) (slots + rm.slots) Q (F0 m (pc + 3) ls (.long r :: rest))) : W p l e R s m args below meth c H locs cells slots Q (F0 m pc ls st) := by
  subst hst
  refine va_calll (va_runV (As := As) (rest := rest) ⟨hx, hb, hml, hown, hts⟩ hM (g_cwV hts hc hv hl hR) ⟨gPc_blind, va_recv hK (g_one hG hi he) (q0 := 0) hcl rfl, fun U hU hW => ⟨rfl, by rw [hU]; exact Nat.le_trans hB hS.1, by rw [hU]; exact hG, va_K.moved hW.alike hK⟩⟩ rfl hn hsz rfl (lv_room hW) hdg hf) hS (fun q _ h => h) (fun q h => h) (fun r u t H1 locs1 ht hvm hp hB hz hk hS1 => kk r u H1 locs1 hp (by rw [← ht]; exact hB.1) hS1)
theorem g_Sl {post : Int64 → (Nat → va_E) → Prop} (hM : Met l y (tbw y b maxL ret) rm (gPc D k a B0 w (As)) (va_Ql post (gB D k a) (gF B0)) rm.cells rm.slots (gF B0)) (hc : cal y b maxL ret n) (hv : calS y) (hl : Cond.methodLink own index y ∈ TB) (hx : p.tables.exec = Jvm.exec) (hb : c.code = cc) (hml : c.maxLocals = nL) (hown : s.vm.findClass own = some m.cls) (hts : ∀ w ∈ TB, w.before args s = true) (hB : B0 ≤ s.heap.size) (hG : gW D a w H) (hK : va_K D vwCl (gT k) s) (hS : va_S (gF B0) s.heap H locs)
    (hR : rm.frames + 1 ≤ R.frames ∧ 8 + (maxL + 11) + rm.locals ≤ R.locals) (hn : As.length = n) (hsz : ls.size = nL) (hst : st = As.reverse ++ rest) (hW : (rest.map fun v => v.category).sum ≤ 8) (hdg : decode cc pc = .ok (.invokestatic index, 3)) (hf : cells + rm.cells ≤ R.cells ∧ slots + rm.slots ≤ R.slots)
    (kk : ∀ (r : Int64) (w1 : Nat → va_E) (H1 : Heap) (locs1 : List Loc), post r w1 → gW D a w1 H1 → va_S (gF B0) s.heap H1 locs1 → W p l e R s m args below meth c H1 locs1 (cells + rm.cells) (slots + rm.slots) Q (F0 m (pc + 3) ls (.long r :: rest))) : W p l e R s m args below meth c H locs cells slots Q (F0 m pc ls st) := by
  subst hst
  refine va_calll (va_runS (As := As) (rest := rest) ⟨hx, hb, hml, hown, hts⟩ hM (⟨g_cwB hts hc hl hR, hts _ hv⟩) ⟨gPc_blind, fun U hU hW => ⟨rfl, by rw [hU]; exact Nat.le_trans hB hS.1, by rw [hU]; exact hG, va_K.moved hW.alike hK⟩⟩ rfl hn hsz rfl (lv_room hW) hdg hf) hS (fun q _ h => h) (fun q h => h) (fun r u t H1 locs1 ht hvm hp hB hz hk hS1 => kk r u H1 locs1 hp (by rw [← ht]; exact hB.1) hS1)
theorem g_Vv {post : (Nat → va_E) → Prop} {i : Nat} (hM : Met l y (tbw y b maxL ret) rm (gPc D k a B0 w (.ref (a i) :: As)) (va_Qv post (gB D k a) (gF B0)) rm.cells rm.slots (gF B0)) (hc : cal y b maxL ret n) (hv : calV y) (hl : Cond.methodLink own index y ∈ TB) (hx : p.tables.exec = Jvm.exec) (hb : c.code = cc) (hml : c.maxLocals = nL) (hown : s.vm.findClass own = some m.cls) (hts : ∀ w ∈ TB, w.before args s = true) (hB : B0 ≤ s.heap.size) (hG : gW D a w H) (hK : va_K D vwCl (gT k) s) (hS : va_S (gF B0) s.heap H locs)
    (hi : i < gN) {ci : Nat} {fs : List Value} {T : u_T} {N : Nat} (he : w i = .inr (ci, fs)) (hcl : vwCl[ci]? = some (y.cls, T, N)) (hR : rm.frames + 1 ≤ R.frames ∧ 8 + (maxL + 11) + rm.locals ≤ R.locals) (hn : As.length = n) (hsz : ls.size = nL) (hst : st = As.reverse ++ .ref (a i) :: rest) (hW : (rest.map fun v => v.category).sum ≤ 8) (hdg : decode cc pc = .ok (.invokevirtual index, 3)) (hf : cells + rm.cells ≤ R.cells ∧ slots + rm.slots ≤ R.slots)
    (kk : ∀ (w1 : Nat → va_E) (H1 : Heap) (locs1 : List Loc), post w1 → gW D a w1 H1 → va_S (gF B0) s.heap H1 locs1 → W p l e R s m args below meth c H1 locs1 (cells + rm.cells) (slots + rm.slots) Q (F0 m (pc + 3) ls (rest))) : W p l e R s m args below meth c H locs cells slots Q (F0 m pc ls st) := by
  subst hst
  refine va_callv (va_runV (As := As) (rest := rest) ⟨hx, hb, hml, hown, hts⟩ hM (g_cwV hts hc hv hl hR) ⟨gPc_blind, va_recv hK (g_one hG hi he) (q0 := 0) hcl rfl, fun U hU hW => ⟨rfl, by rw [hU]; exact Nat.le_trans hB hS.1, by rw [hU]; exact hG, va_K.moved hW.alike hK⟩⟩ rfl hn hsz rfl (lv_room hW) hdg hf) hS (fun q _ h => h) (fun q h => h) (fun u t H1 locs1 ht hvm hp hB hz hk hS1 => kk u H1 locs1 hp (by rw [← ht]; exact hB.1) hS1)
theorem g_Sv {post : (Nat → va_E) → Prop} (hM : Met l y (tbw y b maxL ret) rm (gPc D k a B0 w (As)) (va_Qv post (gB D k a) (gF B0)) rm.cells rm.slots (gF B0)) (hc : cal y b maxL ret n) (hv : calS y) (hl : Cond.methodLink own index y ∈ TB) (hx : p.tables.exec = Jvm.exec) (hb : c.code = cc) (hml : c.maxLocals = nL) (hown : s.vm.findClass own = some m.cls) (hts : ∀ w ∈ TB, w.before args s = true) (hB : B0 ≤ s.heap.size) (hG : gW D a w H) (hK : va_K D vwCl (gT k) s) (hS : va_S (gF B0) s.heap H locs)
    (hR : rm.frames + 1 ≤ R.frames ∧ 8 + (maxL + 11) + rm.locals ≤ R.locals) (hn : As.length = n) (hsz : ls.size = nL) (hst : st = As.reverse ++ rest) (hW : (rest.map fun v => v.category).sum ≤ 8) (hdg : decode cc pc = .ok (.invokestatic index, 3)) (hf : cells + rm.cells ≤ R.cells ∧ slots + rm.slots ≤ R.slots)
    (kk : ∀ (w1 : Nat → va_E) (H1 : Heap) (locs1 : List Loc), post w1 → gW D a w1 H1 → va_S (gF B0) s.heap H1 locs1 → W p l e R s m args below meth c H1 locs1 (cells + rm.cells) (slots + rm.slots) Q (F0 m (pc + 3) ls (rest))) : W p l e R s m args below meth c H locs cells slots Q (F0 m pc ls st) := by
  subst hst
  refine va_callv (va_runS (As := As) (rest := rest) ⟨hx, hb, hml, hown, hts⟩ hM (⟨g_cwB hts hc hl hR, hts _ hv⟩) ⟨gPc_blind, fun U hU hW => ⟨rfl, by rw [hU]; exact Nat.le_trans hB hS.1, by rw [hU]; exact hG, va_K.moved hW.alike hK⟩⟩ rfl hn hsz rfl (lv_room hW) hdg hf) hS (fun q _ h => h) (fun q h => h) (fun u t H1 locs1 ht hvm hp hB hz hk hS1 => kk u H1 locs1 hp (by rw [← ht]; exact hB.1) hS1)
theorem g_ViR {E : Int32} {i : Nat} (hM : Met l y (tbw y b maxL ret) rm (gPc D k a B0 w (.ref (a i) :: As)) (va_Qi (roP E w) (gB D k a) (gF B0)) rm.cells rm.slots (gF B0)) (hc : cal y b maxL ret n) (hv : calV y) (hl : Cond.methodLink own index y ∈ TB) (hx : p.tables.exec = Jvm.exec) (hb : c.code = cc) (hml : c.maxLocals = nL) (hown : s.vm.findClass own = some m.cls) (hts : ∀ w ∈ TB, w.before args s = true) (hB : B0 ≤ s.heap.size) (hG : gW D a w H) (hK : va_K D vwCl (gT k) s) (hS : va_S (gF B0) s.heap H locs)
    (hi : i < gN) {ci : Nat} {fs : List Value} {T : u_T} {N : Nat} (he : w i = .inr (ci, fs)) (hcl : vwCl[ci]? = some (y.cls, T, N)) (hR : rm.frames + 1 ≤ R.frames ∧ 8 + (maxL + 11) + rm.locals ≤ R.locals) (hn : As.length = n) (hsz : ls.size = nL) (hst : st = As.reverse ++ .ref (a i) :: rest) (hW : (rest.map fun v => v.category).sum ≤ 8) (hdg : decode cc pc = .ok (.invokevirtual index, 3)) (hf : cells + rm.cells ≤ R.cells ∧ slots + rm.slots ≤ R.slots)
    (kk : ∀ (H1 : Heap) (locs1 : List Loc), gW D a w H1 → va_S (gF B0) s.heap H1 locs1 → W p l e R s m args below meth c H1 locs1 (cells + rm.cells) (slots + rm.slots) Q (F0 m (pc + 3) ls (.int E :: rest))) : W p l e R s m args below meth c H locs cells slots Q (F0 m pc ls st) :=
  g_Vi hM hc hv hl hx hb hml hown hts hB hG hK hS hi he hcl hR hn hsz hst hW hdg hf (fun r w1 H1 locs1 hp hG1 hS1 => by
    obtain ⟨e1, e2⟩ := hp
    rw [e1]; rw [e2] at hG1
    exact kk H1 locs1 hG1 hS1)
theorem g_SiR {E : Int32} (hM : Met l y (tbw y b maxL ret) rm (gPc D k a B0 w (As)) (va_Qi (roP E w) (gB D k a) (gF B0)) rm.cells rm.slots (gF B0)) (hc : cal y b maxL ret n) (hv : calS y) (hl : Cond.methodLink own index y ∈ TB) (hx : p.tables.exec = Jvm.exec) (hb : c.code = cc) (hml : c.maxLocals = nL) (hown : s.vm.findClass own = some m.cls) (hts : ∀ w ∈ TB, w.before args s = true) (hB : B0 ≤ s.heap.size) (hG : gW D a w H) (hK : va_K D vwCl (gT k) s) (hS : va_S (gF B0) s.heap H locs)
    (hR : rm.frames + 1 ≤ R.frames ∧ 8 + (maxL + 11) + rm.locals ≤ R.locals) (hn : As.length = n) (hsz : ls.size = nL) (hst : st = As.reverse ++ rest) (hW : (rest.map fun v => v.category).sum ≤ 8) (hdg : decode cc pc = .ok (.invokestatic index, 3)) (hf : cells + rm.cells ≤ R.cells ∧ slots + rm.slots ≤ R.slots)
    (kk : ∀ (H1 : Heap) (locs1 : List Loc), gW D a w H1 → va_S (gF B0) s.heap H1 locs1 → W p l e R s m args below meth c H1 locs1 (cells + rm.cells) (slots + rm.slots) Q (F0 m (pc + 3) ls (.int E :: rest))) : W p l e R s m args below meth c H locs cells slots Q (F0 m pc ls st) :=
  g_Si hM hc hv hl hx hb hml hown hts hB hG hK hS hR hn hsz hst hW hdg hf (fun r w1 H1 locs1 hp hG1 hS1 => by
    obtain ⟨e1, e2⟩ := hp
    rw [e1]; rw [e2] at hG1
    exact kk H1 locs1 hG1 hS1)
theorem g_VlR {E : Int64} {i : Nat} (hM : Met l y (tbw y b maxL ret) rm (gPc D k a B0 w (.ref (a i) :: As)) (va_Ql (roP E w) (gB D k a) (gF B0)) rm.cells rm.slots (gF B0)) (hc : cal y b maxL ret n) (hv : calV y) (hl : Cond.methodLink own index y ∈ TB) (hx : p.tables.exec = Jvm.exec) (hb : c.code = cc) (hml : c.maxLocals = nL) (hown : s.vm.findClass own = some m.cls) (hts : ∀ w ∈ TB, w.before args s = true) (hB : B0 ≤ s.heap.size) (hG : gW D a w H) (hK : va_K D vwCl (gT k) s) (hS : va_S (gF B0) s.heap H locs)
    (hi : i < gN) {ci : Nat} {fs : List Value} {T : u_T} {N : Nat} (he : w i = .inr (ci, fs)) (hcl : vwCl[ci]? = some (y.cls, T, N)) (hR : rm.frames + 1 ≤ R.frames ∧ 8 + (maxL + 11) + rm.locals ≤ R.locals) (hn : As.length = n) (hsz : ls.size = nL) (hst : st = As.reverse ++ .ref (a i) :: rest) (hW : (rest.map fun v => v.category).sum ≤ 8) (hdg : decode cc pc = .ok (.invokevirtual index, 3)) (hf : cells + rm.cells ≤ R.cells ∧ slots + rm.slots ≤ R.slots)
    (kk : ∀ (H1 : Heap) (locs1 : List Loc), gW D a w H1 → va_S (gF B0) s.heap H1 locs1 → W p l e R s m args below meth c H1 locs1 (cells + rm.cells) (slots + rm.slots) Q (F0 m (pc + 3) ls (.long E :: rest))) : W p l e R s m args below meth c H locs cells slots Q (F0 m pc ls st) :=
  g_Vl hM hc hv hl hx hb hml hown hts hB hG hK hS hi he hcl hR hn hsz hst hW hdg hf (fun r w1 H1 locs1 hp hG1 hS1 => by
    obtain ⟨e1, e2⟩ := hp
    rw [e1]; rw [e2] at hG1
    exact kk H1 locs1 hG1 hS1)
theorem g_SlR {E : Int64} (hM : Met l y (tbw y b maxL ret) rm (gPc D k a B0 w (As)) (va_Ql (roP E w) (gB D k a) (gF B0)) rm.cells rm.slots (gF B0)) (hc : cal y b maxL ret n) (hv : calS y) (hl : Cond.methodLink own index y ∈ TB) (hx : p.tables.exec = Jvm.exec) (hb : c.code = cc) (hml : c.maxLocals = nL) (hown : s.vm.findClass own = some m.cls) (hts : ∀ w ∈ TB, w.before args s = true) (hB : B0 ≤ s.heap.size) (hG : gW D a w H) (hK : va_K D vwCl (gT k) s) (hS : va_S (gF B0) s.heap H locs)
    (hR : rm.frames + 1 ≤ R.frames ∧ 8 + (maxL + 11) + rm.locals ≤ R.locals) (hn : As.length = n) (hsz : ls.size = nL) (hst : st = As.reverse ++ rest) (hW : (rest.map fun v => v.category).sum ≤ 8) (hdg : decode cc pc = .ok (.invokestatic index, 3)) (hf : cells + rm.cells ≤ R.cells ∧ slots + rm.slots ≤ R.slots)
    (kk : ∀ (H1 : Heap) (locs1 : List Loc), gW D a w H1 → va_S (gF B0) s.heap H1 locs1 → W p l e R s m args below meth c H1 locs1 (cells + rm.cells) (slots + rm.slots) Q (F0 m (pc + 3) ls (.long E :: rest))) : W p l e R s m args below meth c H locs cells slots Q (F0 m pc ls st) :=
  g_Sl hM hc hv hl hx hb hml hown hts hB hG hK hS hR hn hsz hst hW hdg hf (fun r w1 H1 locs1 hp hG1 hS1 => by
    obtain ⟨e1, e2⟩ := hp
    rw [e1]; rw [e2] at hG1
    exact kk H1 locs1 hG1 hS1)
theorem g_VvR {i : Nat} (hM : Met l y (tbw y b maxL ret) rm (gPc D k a B0 w (.ref (a i) :: As)) (va_Qv (roV w) (gB D k a) (gF B0)) rm.cells rm.slots (gF B0)) (hc : cal y b maxL ret n) (hv : calV y) (hl : Cond.methodLink own index y ∈ TB) (hx : p.tables.exec = Jvm.exec) (hb : c.code = cc) (hml : c.maxLocals = nL) (hown : s.vm.findClass own = some m.cls) (hts : ∀ w ∈ TB, w.before args s = true) (hB : B0 ≤ s.heap.size) (hG : gW D a w H) (hK : va_K D vwCl (gT k) s) (hS : va_S (gF B0) s.heap H locs)
    (hi : i < gN) {ci : Nat} {fs : List Value} {T : u_T} {N : Nat} (he : w i = .inr (ci, fs)) (hcl : vwCl[ci]? = some (y.cls, T, N)) (hR : rm.frames + 1 ≤ R.frames ∧ 8 + (maxL + 11) + rm.locals ≤ R.locals) (hn : As.length = n) (hsz : ls.size = nL) (hst : st = As.reverse ++ .ref (a i) :: rest) (hW : (rest.map fun v => v.category).sum ≤ 8) (hdg : decode cc pc = .ok (.invokevirtual index, 3)) (hf : cells + rm.cells ≤ R.cells ∧ slots + rm.slots ≤ R.slots)
    (kk : ∀ (H1 : Heap) (locs1 : List Loc), gW D a w H1 → va_S (gF B0) s.heap H1 locs1 → W p l e R s m args below meth c H1 locs1 (cells + rm.cells) (slots + rm.slots) Q (F0 m (pc + 3) ls (rest))) : W p l e R s m args below meth c H locs cells slots Q (F0 m pc ls st) :=
  g_Vv hM hc hv hl hx hb hml hown hts hB hG hK hS hi he hcl hR hn hsz hst hW hdg hf (fun w1 H1 locs1 hp hG1 hS1 => by
    obtain ⟨e1, e2⟩ := hp
    rw [e2] at hG1
    exact kk H1 locs1 hG1 hS1)
theorem g_SvR (hM : Met l y (tbw y b maxL ret) rm (gPc D k a B0 w (As)) (va_Qv (roV w) (gB D k a) (gF B0)) rm.cells rm.slots (gF B0)) (hc : cal y b maxL ret n) (hv : calS y) (hl : Cond.methodLink own index y ∈ TB) (hx : p.tables.exec = Jvm.exec) (hb : c.code = cc) (hml : c.maxLocals = nL) (hown : s.vm.findClass own = some m.cls) (hts : ∀ w ∈ TB, w.before args s = true) (hB : B0 ≤ s.heap.size) (hG : gW D a w H) (hK : va_K D vwCl (gT k) s) (hS : va_S (gF B0) s.heap H locs)
    (hR : rm.frames + 1 ≤ R.frames ∧ 8 + (maxL + 11) + rm.locals ≤ R.locals) (hn : As.length = n) (hsz : ls.size = nL) (hst : st = As.reverse ++ rest) (hW : (rest.map fun v => v.category).sum ≤ 8) (hdg : decode cc pc = .ok (.invokestatic index, 3)) (hf : cells + rm.cells ≤ R.cells ∧ slots + rm.slots ≤ R.slots)
    (kk : ∀ (H1 : Heap) (locs1 : List Loc), gW D a w H1 → va_S (gF B0) s.heap H1 locs1 → W p l e R s m args below meth c H1 locs1 (cells + rm.cells) (slots + rm.slots) Q (F0 m (pc + 3) ls (rest))) : W p l e R s m args below meth c H locs cells slots Q (F0 m pc ls st) :=
  g_Sv hM hc hv hl hx hb hml hown hts hB hG hK hS hR hn hsz hst hW hdg hf (fun w1 H1 locs1 hp hG1 hS1 => by
    obtain ⟨e1, e2⟩ := hp
    rw [e2] at hG1
    exact kk H1 locs1 hG1 hS1)
end GCALLS
end
section
theorem inX : ∀ w ∈ u_ws RX TX 4, w ∈ TB := fun w h => by
  have h1 : w ∈ ([156, 158, 160, 162] : List Nat).filterMap (fun i => lw_tbl[i]?) := by
    rw [show ([156, 158, 160, 162] : List Nat).filterMap (fun i => lw_tbl[i]?) = u_ws RX TX 4 by decide +kernel]; exact h
  obtain ⟨i, -, hi⟩ := List.mem_filterMap.mp h1
  exact tb_mem (List.mem_of_getElem? hi) (List.all_eq_true.mp (show (u_ws RX TX 4).all goodWord = true by decide +kernel) w h)
theorem inP : ∀ w ∈ u_ws RP TP 8, w ∈ TB := fun w h => by
  have h1 : w ∈ ([63, 65, 67, 69, 71, 73, 75, 77] : List Nat).filterMap (fun i => lw_tbl[i]?) := by
    rw [show ([63, 65, 67, 69, 71, 73, 75, 77] : List Nat).filterMap (fun i => lw_tbl[i]?) = u_ws RP TP 8 by decide +kernel]; exact h
  obtain ⟨i, -, hi⟩ := List.mem_filterMap.mp h1
  exact tb_mem (List.mem_of_getElem? hi) (List.all_eq_true.mp (show (u_ws RP TP 8).all goodWord = true by decide +kernel) w h)
theorem inR : ∀ w ∈ u_ws RR TR 3, w ∈ TB := fun w h => by
  have h1 : w ∈ ([92, 94, 96] : List Nat).filterMap (fun i => lw_tbl[i]?) := by
    rw [show ([92, 94, 96] : List Nat).filterMap (fun i => lw_tbl[i]?) = u_ws RR TR 3 by decide +kernel]; exact h
  obtain ⟨i, -, hi⟩ := List.mem_filterMap.mp h1
  exact tb_mem (List.mem_of_getElem? hi) (List.all_eq_true.mp (show (u_ws RR TR 3).all goodWord = true by decide +kernel) w h)
theorem inF : ∀ w ∈ u_ws RF TF 3, w ∈ TB := fun w h => by
  have h1 : w ∈ ([108, 110, 112] : List Nat).filterMap (fun i => lw_tbl[i]?) := by
    rw [show ([108, 110, 112] : List Nat).filterMap (fun i => lw_tbl[i]?) = u_ws RF TF 3 by decide +kernel]; exact h
  obtain ⟨i, -, hi⟩ := List.mem_filterMap.mp h1
  exact tb_mem (List.mem_of_getElem? hi) (List.all_eq_true.mp (show (u_ws RF TF 3).all goodWord = true by decide +kernel) w h)
theorem inM : ∀ w ∈ u_ws RM TM 10, w ∈ TB := fun w h => by
  have h1 : w ∈ ([131, 133, 135, 137, 139, 141, 143, 145, 147, 149] : List Nat).filterMap (fun i => lw_tbl[i]?) := by
    rw [show ([131, 133, 135, 137, 139, 141, 143, 145, 147, 149] : List Nat).filterMap (fun i => lw_tbl[i]?) = u_ws RM TM 10 by decide +kernel]; exact h
  obtain ⟨i, -, hi⟩ := List.mem_filterMap.mp h1
  exact tb_mem (List.mem_of_getElem? hi) (List.all_eq_true.mp (show (u_ws RM TM 10).all goodWord = true by decide +kernel) w h)
theorem inD : ∀ w ∈ u_ws RD TD 22, w ∈ TB := fun w h => by
  have h1 : w ∈ ([665, 667, 669, 671, 673, 675, 677, 679, 681, 683, 685, 687, 689, 691, 693, 695, 697, 699, 701, 703, 705, 707] : List Nat).filterMap (fun i => lw_tbl[i]?) := by
    rw [show ([665, 667, 669, 671, 673, 675, 677, 679, 681, 683, 685, 687, 689, 691, 693, 695, 697, 699, 701, 703, 705, 707] : List Nat).filterMap (fun i => lw_tbl[i]?) = u_ws RD TD 22 by decide +kernel]; exact h
  obtain ⟨i, -, hi⟩ := List.mem_filterMap.mp h1
  exact tb_mem (List.mem_of_getElem? hi) (List.all_eq_true.mp (show (u_ws RD TD 22).all goodWord = true by decide +kernel) w h)
theorem mlX_1 : Cond.methodLink RX 1 ⟨"java/lang/Object", "<init>", "()V"⟩ ∈ TB := tb_at 46 (by decide +kernel) (by decide +kernel)
theorem mlX_9 : Cond.methodLink RX 9 yP_init ∈ TB := tb_at 51 (by decide +kernel) (by decide +kernel)
theorem lkX_10 : Cond.fieldLink RX 10 "FeedModulus" "parts" "LFeedModulus$Parts;" ∈ TB := tb_at 152 (by decide +kernel) (by decide +kernel)
theorem mlX_18 : Cond.methodLink RX 18 yR_init ∈ TB := tb_at 85 (by decide +kernel) (by decide +kernel)
theorem lkX_19 : Cond.fieldLink RX 19 "FeedModulus" "riserTable" "LFeedModulus$RiserTable;" ∈ TB := tb_at 153 (by decide +kernel) (by decide +kernel)
theorem mlX_25 : Cond.methodLink RX 25 yF_init ∈ TB := tb_at 101 (by decide +kernel) (by decide +kernel)
theorem lkX_26 : Cond.fieldLink RX 26 "FeedModulus" "flowTable" "LFeedModulus$FlowTable;" ∈ TB := tb_at 154 (by decide +kernel) (by decide +kernel)
theorem mlX_32 : Cond.methodLink RX 32 yM_init ∈ TB := tb_at 117 (by decide +kernel) (by decide +kernel)
theorem lkX_33 : Cond.fieldLink RX 33 "FeedModulus" "moldingBox" "LFeedModulus$MoldingBox;" ∈ TB := tb_at 155 (by decide +kernel) (by decide +kernel)
theorem calX_init : cal yX_init cX_init 1 none 0 := ⟨tb_at 45 (by decide +kernel) (by decide +kernel), tb_at 27 (by decide +kernel) (by decide +kernel), by decide +kernel, by decide +kernel, by decide +kernel⟩
theorem mlX_37 : Cond.methodLink RX 37 yX_requireRoomForPart ∈ TB := tb_at 174 (by decide +kernel) (by decide +kernel)
theorem mlX_40 : Cond.methodLink RX 40 yX_requireSize ∈ TB := tb_at 251 (by decide +kernel) (by decide +kernel)
theorem mlX_44 : Cond.methodLink RX 44 yP_addBox ∈ TB := tb_at 270 (by decide +kernel) (by decide +kernel)
theorem calX_box : cal yX_box cX_box 4 (some .int) 3 := ⟨tb_at 173 (by decide +kernel) (by decide +kernel), tb_at 27 (by decide +kernel) (by decide +kernel), by decide +kernel, by decide +kernel, by decide +kernel⟩
theorem cvX_box : calV yX_box := ⟨tb_at 171 (by decide +kernel) (by decide +kernel), tb_at 172 (by decide +kernel) (by decide +kernel)⟩
theorem mlX_48 : Cond.methodLink RX 48 yP_addCylinder ∈ TB := tb_at 293 (by decide +kernel) (by decide +kernel)
theorem calX_cylinder : cal yX_cylinder cX_cylinder 3 (some .int) 2 := ⟨tb_at 292 (by decide +kernel) (by decide +kernel), tb_at 27 (by decide +kernel) (by decide +kernel), by decide +kernel, by decide +kernel, by decide +kernel⟩
theorem cvX_cylinder : calV yX_cylinder := ⟨tb_at 290 (by decide +kernel) (by decide +kernel), tb_at 291 (by decide +kernel) (by decide +kernel)⟩
theorem mlX_52 : Cond.methodLink RX 52 yX_requirePart ∈ TB := tb_at 305 (by decide +kernel) (by decide +kernel)
theorem mlX_55 : Cond.methodLink RX 55 yP_hasFace ∈ TB := tb_at 329 (by decide +kernel) (by decide +kernel)
theorem mlX_63 : Cond.methodLink RX 63 ⟨"java/lang/IndexOutOfBoundsException", "<init>", "(Ljava/lang/String;)V"⟩ ∈ TB := tb_at 323 (by decide +kernel) (by decide +kernel)
theorem mlX_70 : Cond.methodLink RX 70 ⟨"java/lang/IllegalArgumentException", "<init>", "(Ljava/lang/String;)V"⟩ ∈ TB := tb_at 264 (by decide +kernel) (by decide +kernel)
theorem mlX_71 : Cond.methodLink RX 71 yP_setTimes ∈ TB := tb_at 335 (by decide +kernel) (by decide +kernel)
theorem calX_face : cal yX_face cX_face 4 none 3 := ⟨tb_at 304 (by decide +kernel) (by decide +kernel), tb_at 27 (by decide +kernel) (by decide +kernel), by decide +kernel, by decide +kernel, by decide +kernel⟩
theorem cvX_face : calV yX_face := ⟨tb_at 302 (by decide +kernel) (by decide +kernel), tb_at 303 (by decide +kernel) (by decide +kernel)⟩
theorem mlX_77 : Cond.methodLink RX 77 yX_requireTold ∈ TB := tb_at 345 (by decide +kernel) (by decide +kernel)
theorem mlX_80 : Cond.methodLink RX 80 yP_upper ∈ TB := tb_at 369 (by decide +kernel) (by decide +kernel)
theorem mlX_84 : Cond.methodLink RX 84 yP_lower ∈ TB := tb_at 373 (by decide +kernel) (by decide +kernel)
theorem mlX_87 : Cond.methodLink RX 87 yX_inLowestTerms ∈ TB := tb_at 377 (by decide +kernel) (by decide +kernel)
theorem calX_modulus : cal yX_modulus cX_modulus 3 (some .long) 2 := ⟨tb_at 343 (by decide +kernel) (by decide +kernel), tb_at 27 (by decide +kernel) (by decide +kernel), by decide +kernel, by decide +kernel, by decide +kernel⟩
theorem cvX_modulus : calV yX_modulus := ⟨tb_at 341 (by decide +kernel) (by decide +kernel), tb_at 342 (by decide +kernel) (by decide +kernel)⟩
theorem mlX_93 : Cond.methodLink RX 93 yP_areJoined ∈ TB := tb_at 391 (by decide +kernel) (by decide +kernel)
theorem mlX_100 : Cond.methodLink RX 100 ⟨"java/lang/IllegalStateException", "<init>", "(Ljava/lang/String;)V"⟩ ∈ TB := tb_at 225 (by decide +kernel) (by decide +kernel)
theorem mlX_101 : Cond.methodLink RX 101 yP_setJoined ∈ TB := tb_at 396 (by decide +kernel) (by decide +kernel)
theorem calX_join : cal yX_join cX_join 4 none 3 := ⟨tb_at 389 (by decide +kernel) (by decide +kernel), tb_at 27 (by decide +kernel) (by decide +kernel), by decide +kernel, by decide +kernel, by decide +kernel⟩
theorem cvX_join : calV yX_join := ⟨tb_at 387 (by decide +kernel) (by decide +kernel), tb_at 388 (by decide +kernel) (by decide +kernel)⟩
theorem mlX_105 : Cond.methodLink RX 105 yX_requireNotBelowZero ∈ TB := tb_at 407 (by decide +kernel) (by decide +kernel)
theorem mlX_108 : Cond.methodLink RX 108 yP_count ∈ TB := tb_at 411 (by decide +kernel) (by decide +kernel)
theorem mlX_112 : Cond.methodLink RX 112 yP_isTold ∈ TB := tb_at 349 (by decide +kernel) (by decide +kernel)
theorem mlX_116 : Cond.methodLink RX 116 yP_solidBefore ∈ TB := tb_at 415 (by decide +kernel) (by decide +kernel)
theorem calX_order : cal yX_order cX_order 3 (some .int) 1 := ⟨tb_at 406 (by decide +kernel) (by decide +kernel), tb_at 27 (by decide +kernel) (by decide +kernel), by decide +kernel, by decide +kernel, by decide +kernel⟩
theorem cvX_order : calV yX_order := ⟨tb_at 404 (by decide +kernel) (by decide +kernel), tb_at 405 (by decide +kernel) (by decide +kernel)⟩
theorem mlX_120 : Cond.methodLink RX 120 yR_isFull ∈ TB := tb_at 438 (by decide +kernel) (by decide +kernel)
theorem mlX_126 : Cond.methodLink RX 126 yR_addRow ∈ TB := tb_at 443 (by decide +kernel) (by decide +kernel)
theorem calX_riserRow : cal yX_riserRow cX_riserRow 3 (some .int) 2 := ⟨tb_at 437 (by decide +kernel) (by decide +kernel), tb_at 27 (by decide +kernel) (by decide +kernel), by decide +kernel, by decide +kernel, by decide +kernel⟩
theorem cvX_riserRow : calV yX_riserRow := ⟨tb_at 435 (by decide +kernel) (by decide +kernel), tb_at 436 (by decide +kernel) (by decide +kernel)⟩
theorem mlX_129 : Cond.methodLink RX 129 yR_firstFor ∈ TB := tb_at 455 (by decide +kernel) (by decide +kernel)
theorem mlX_137 : Cond.methodLink RX 137 ⟨"java/lang/UnsupportedOperationException", "<init>", "(Ljava/lang/String;)V"⟩ ∈ TB := tb_at 363 (by decide +kernel) (by decide +kernel)
theorem mlX_138 : Cond.methodLink RX 138 yP_setRiser ∈ TB := tb_at 462 (by decide +kernel) (by decide +kernel)
theorem calX_riser : cal yX_riser cX_riser 3 (some .int) 1 := ⟨tb_at 454 (by decide +kernel) (by decide +kernel), tb_at 27 (by decide +kernel) (by decide +kernel), by decide +kernel, by decide +kernel, by decide +kernel⟩
theorem cvX_riser : calV yX_riser := ⟨tb_at 452 (by decide +kernel) (by decide +kernel), tb_at 453 (by decide +kernel) (by decide +kernel)⟩
theorem mlX_142 : Cond.methodLink RX 142 yP_riserOf ∈ TB := tb_at 473 (by decide +kernel) (by decide +kernel)
theorem calX_cutOff : cal yX_cutOff cX_cutOff 2 none 1 := ⟨tb_at 472 (by decide +kernel) (by decide +kernel), tb_at 27 (by decide +kernel) (by decide +kernel), by decide +kernel, by decide +kernel, by decide +kernel⟩
theorem cvX_cutOff : calV yX_cutOff := ⟨tb_at 470 (by decide +kernel) (by decide +kernel), tb_at 471 (by decide +kernel) (by decide +kernel)⟩
theorem mlX_147 : Cond.methodLink RX 147 yX_whatFeeds ∈ TB := tb_at 485 (by decide +kernel) (by decide +kernel)
theorem calX_feeder : cal yX_feeder cX_feeder 2 (some .int) 1 := ⟨tb_at 484 (by decide +kernel) (by decide +kernel), tb_at 27 (by decide +kernel) (by decide +kernel), by decide +kernel, by decide +kernel, by decide +kernel⟩
theorem cvX_feeder : calV yX_feeder := ⟨tb_at 482 (by decide +kernel) (by decide +kernel), tb_at 483 (by decide +kernel) (by decide +kernel)⟩
theorem calX_unfed : cal yX_unfed cX_unfed 4 (some .int) 1 := ⟨tb_at 500 (by decide +kernel) (by decide +kernel), tb_at 27 (by decide +kernel) (by decide +kernel), by decide +kernel, by decide +kernel, by decide +kernel⟩
theorem cvX_unfed : calV yX_unfed := ⟨tb_at 498 (by decide +kernel) (by decide +kernel), tb_at 499 (by decide +kernel) (by decide +kernel)⟩
theorem mlX_150 : Cond.methodLink RX 150 yF_isFull ∈ TB := tb_at 508 (by decide +kernel) (by decide +kernel)
theorem mlX_153 : Cond.methodLink RX 153 yX_requireOpening ∈ TB := tb_at 513 (by decide +kernel) (by decide +kernel)
theorem mlX_156 : Cond.methodLink RX 156 yX_requireFlow ∈ TB := tb_at 517 (by decide +kernel) (by decide +kernel)
theorem mlX_159 : Cond.methodLink RX 159 yF_mayFollow ∈ TB := tb_at 522 (by decide +kernel) (by decide +kernel)
theorem mlX_164 : Cond.methodLink RX 164 yF_addRow ∈ TB := tb_at 527 (by decide +kernel) (by decide +kernel)
theorem calX_flowRow : cal yX_flowRow cX_flowRow 3 (some .int) 2 := ⟨tb_at 507 (by decide +kernel) (by decide +kernel), tb_at 27 (by decide +kernel) (by decide +kernel), by decide +kernel, by decide +kernel, by decide +kernel⟩
theorem cvX_flowRow : calV yX_flowRow := ⟨tb_at 505 (by decide +kernel) (by decide +kernel), tb_at 506 (by decide +kernel) (by decide +kernel)⟩
theorem mlX_165 : Cond.methodLink RX 165 yX_requireFlowRows ∈ TB := tb_at 538 (by decide +kernel) (by decide +kernel)
theorem mlX_168 : Cond.methodLink RX 168 yF_flowAt ∈ TB := tb_at 547 (by decide +kernel) (by decide +kernel)
theorem calX_flow : cal yX_flow cX_flow 2 (some .int) 1 := ⟨tb_at 537 (by decide +kernel) (by decide +kernel), tb_at 27 (by decide +kernel) (by decide +kernel), by decide +kernel, by decide +kernel, by decide +kernel⟩
theorem cvX_flow : calV yX_flow := ⟨tb_at 535 (by decide +kernel) (by decide +kernel), tb_at 536 (by decide +kernel) (by decide +kernel)⟩
theorem mlX_173 : Cond.methodLink RX 173 yF_leastOpeningFor ∈ TB := tb_at 563 (by decide +kernel) (by decide +kernel)
theorem calX_gate : cal yX_gate cX_gate 2 (some .int) 1 := ⟨tb_at 561 (by decide +kernel) (by decide +kernel), tb_at 27 (by decide +kernel) (by decide +kernel), by decide +kernel, by decide +kernel, by decide +kernel⟩
theorem cvX_gate : calV yX_gate := ⟨tb_at 559 (by decide +kernel) (by decide +kernel), tb_at 560 (by decide +kernel) (by decide +kernel)⟩
theorem calX_pattern : cal yX_pattern cX_pattern 3 (some .int) 2 := ⟨tb_at 574 (by decide +kernel) (by decide +kernel), tb_at 27 (by decide +kernel) (by decide +kernel), by decide +kernel, by decide +kernel, by decide +kernel⟩
theorem cvX_pattern : calV yX_pattern := ⟨tb_at 572 (by decide +kernel) (by decide +kernel), tb_at 573 (by decide +kernel) (by decide +kernel)⟩
theorem mlX_178 : Cond.methodLink RX 178 yX_requireMoldingSize ∈ TB := tb_at 583 (by decide +kernel) (by decide +kernel)
theorem mlX_181 : Cond.methodLink RX 181 yM_clearTo ∈ TB := tb_at 587 (by decide +kernel) (by decide +kernel)
theorem calX_molding : cal yX_molding cX_molding 3 none 2 := ⟨tb_at 582 (by decide +kernel) (by decide +kernel), tb_at 27 (by decide +kernel) (by decide +kernel), by decide +kernel, by decide +kernel, by decide +kernel⟩
theorem cvX_molding : calV yX_molding := ⟨tb_at 580 (by decide +kernel) (by decide +kernel), tb_at 581 (by decide +kernel) (by decide +kernel)⟩
theorem mlX_184 : Cond.methodLink RX 184 yM_isFull ∈ TB := tb_at 598 (by decide +kernel) (by decide +kernel)
theorem mlX_187 : Cond.methodLink RX 187 yM_shelfFor ∈ TB := tb_at 603 (by decide +kernel) (by decide +kernel)
theorem mlX_192 : Cond.methodLink RX 192 yM_putOn ∈ TB := tb_at 608 (by decide +kernel) (by decide +kernel)
theorem calX_pack : cal yX_pack cX_pack 4 (some .int) 2 := ⟨tb_at 597 (by decide +kernel) (by decide +kernel), tb_at 27 (by decide +kernel) (by decide +kernel), by decide +kernel, by decide +kernel, by decide +kernel⟩
theorem cvX_pack : calV yX_pack := ⟨tb_at 595 (by decide +kernel) (by decide +kernel), tb_at 596 (by decide +kernel) (by decide +kernel)⟩
theorem mlX_195 : Cond.methodLink RX 195 yM_hasThing ∈ TB := tb_at 623 (by decide +kernel) (by decide +kernel)
theorem mlX_202 : Cond.methodLink RX 202 yM_alongWidth ∈ TB := tb_at 629 (by decide +kernel) (by decide +kernel)
theorem mlX_205 : Cond.methodLink RX 205 yM_alongDepth ∈ TB := tb_at 633 (by decide +kernel) (by decide +kernel)
theorem calX_packed : cal yX_packed cX_packed 3 (some .int) 2 := ⟨tb_at 622 (by decide +kernel) (by decide +kernel), tb_at 27 (by decide +kernel) (by decide +kernel), by decide +kernel, by decide +kernel, by decide +kernel⟩
theorem cvX_packed : calV yX_packed := ⟨tb_at 620 (by decide +kernel) (by decide +kernel), tb_at 621 (by decide +kernel) (by decide +kernel)⟩
theorem mlX_208 : Cond.methodLink RX 208 yP_greatestNeighbour ∈ TB := tb_at 489 (by decide +kernel) (by decide +kernel)
theorem calX_whatFeeds : cal yX_whatFeeds cX_whatFeeds 3 (some .int) 1 := ⟨tb_at 488 (by decide +kernel) (by decide +kernel), tb_at 27 (by decide +kernel) (by decide +kernel), by decide +kernel, by decide +kernel, by decide +kernel⟩
theorem cvX_whatFeeds : calV yX_whatFeeds := ⟨tb_at 487 (by decide +kernel) (by decide +kernel), tb_at 8 (by decide +kernel) (by decide +kernel)⟩
theorem mlX_211 : Cond.methodLink RX 211 yP_has ∈ TB := tb_at 309 (by decide +kernel) (by decide +kernel)
theorem calX_requirePart : cal yX_requirePart cX_requirePart 2 none 1 := ⟨tb_at 308 (by decide +kernel) (by decide +kernel), tb_at 27 (by decide +kernel) (by decide +kernel), by decide +kernel, by decide +kernel, by decide +kernel⟩
theorem cvX_requirePart : calV yX_requirePart := ⟨tb_at 307 (by decide +kernel) (by decide +kernel), tb_at 4 (by decide +kernel) (by decide +kernel)⟩
theorem mlX_216 : Cond.methodLink RX 216 yP_isFull ∈ TB := tb_at 178 (by decide +kernel) (by decide +kernel)
theorem calX_requireRoomForPart : cal yX_requireRoomForPart cX_requireRoomForPart 1 none 0 := ⟨tb_at 177 (by decide +kernel) (by decide +kernel), tb_at 27 (by decide +kernel) (by decide +kernel), by decide +kernel, by decide +kernel, by decide +kernel⟩
theorem cvX_requireRoomForPart : calV yX_requireRoomForPart := ⟨tb_at 176 (by decide +kernel) (by decide +kernel), tb_at 0 (by decide +kernel) (by decide +kernel)⟩
theorem calX_requireTold : cal yX_requireTold cX_requireTold 2 none 1 := ⟨tb_at 348 (by decide +kernel) (by decide +kernel), tb_at 27 (by decide +kernel) (by decide +kernel), by decide +kernel, by decide +kernel, by decide +kernel⟩
theorem cvX_requireTold : calV yX_requireTold := ⟨tb_at 347 (by decide +kernel) (by decide +kernel), tb_at 5 (by decide +kernel) (by decide +kernel)⟩
theorem mlX_221 : Cond.methodLink RX 221 yF_isEmpty ∈ TB := tb_at 542 (by decide +kernel) (by decide +kernel)
theorem calX_requireFlowRows : cal yX_requireFlowRows cX_requireFlowRows 1 none 0 := ⟨tb_at 541 (by decide +kernel) (by decide +kernel), tb_at 27 (by decide +kernel) (by decide +kernel), by decide +kernel, by decide +kernel, by decide +kernel⟩
theorem cvX_requireFlowRows : calV yX_requireFlowRows := ⟨tb_at 540 (by decide +kernel) (by decide +kernel), tb_at 9 (by decide +kernel) (by decide +kernel)⟩
theorem calX_requireNotBelowZero : cal yX_requireNotBelowZero cX_requireNotBelowZero 1 none 1 := ⟨tb_at 409 (by decide +kernel) (by decide +kernel), tb_at 27 (by decide +kernel) (by decide +kernel), by decide +kernel, by decide +kernel, by decide +kernel⟩
theorem cvX_requireNotBelowZero : calS yX_requireNotBelowZero := tb_at 408 (by decide +kernel) (by decide +kernel)
theorem calX_requireSize : cal yX_requireSize cX_requireSize 1 none 1 := ⟨tb_at 253 (by decide +kernel) (by decide +kernel), tb_at 27 (by decide +kernel) (by decide +kernel), by decide +kernel, by decide +kernel, by decide +kernel⟩
theorem cvX_requireSize : calS yX_requireSize := tb_at 252 (by decide +kernel) (by decide +kernel)
theorem calX_requireOpening : cal yX_requireOpening cX_requireOpening 1 none 1 := ⟨tb_at 515 (by decide +kernel) (by decide +kernel), tb_at 27 (by decide +kernel) (by decide +kernel), by decide +kernel, by decide +kernel, by decide +kernel⟩
theorem cvX_requireOpening : calS yX_requireOpening := tb_at 514 (by decide +kernel) (by decide +kernel)
theorem kcX_232 : Cond.constant RX 232 1000000 ∈ TB := tb_at 520 (by decide +kernel) (by decide +kernel)
theorem calX_requireFlow : cal yX_requireFlow cX_requireFlow 1 none 1 := ⟨tb_at 519 (by decide +kernel) (by decide +kernel), tb_at 27 (by decide +kernel) (by decide +kernel), by decide +kernel, by decide +kernel, by decide +kernel⟩
theorem cvX_requireFlow : calS yX_requireFlow := tb_at 518 (by decide +kernel) (by decide +kernel)
theorem calX_requireMoldingSize : cal yX_requireMoldingSize cX_requireMoldingSize 1 none 1 := ⟨tb_at 585 (by decide +kernel) (by decide +kernel), tb_at 27 (by decide +kernel) (by decide +kernel), by decide +kernel, by decide +kernel, by decide +kernel⟩
theorem cvX_requireMoldingSize : calS yX_requireMoldingSize := tb_at 584 (by decide +kernel) (by decide +kernel)
theorem mlX_237 : Cond.methodLink RX 237 yX_greatestDivisor ∈ TB := tb_at 380 (by decide +kernel) (by decide +kernel)
theorem calX_inLowestTerms : cal yX_inLowestTerms cX_inLowestTerms 9 (some .long) 3 := ⟨tb_at 379 (by decide +kernel) (by decide +kernel), tb_at 27 (by decide +kernel) (by decide +kernel), by decide +kernel, by decide +kernel, by decide +kernel⟩
theorem cvX_inLowestTerms : calS yX_inLowestTerms := tb_at 378 (by decide +kernel) (by decide +kernel)
theorem calX_greatestDivisor : cal yX_greatestDivisor cX_greatestDivisor 11 (some .long) 2 := ⟨tb_at 382 (by decide +kernel) (by decide +kernel), tb_at 27 (by decide +kernel) (by decide +kernel), by decide +kernel, by decide +kernel, by decide +kernel⟩
theorem cvX_greatestDivisor : calS yX_greatestDivisor := tb_at 381 (by decide +kernel) (by decide +kernel)
theorem mlD_1 : Cond.methodLink RD 1 ⟨"java/lang/Object", "<init>", "()V"⟩ ∈ TB := tb_at 642 (by decide +kernel) (by decide +kernel)
theorem lkD_7 : Cond.fieldLink RD 7 "FeedModulusModel" "round" "[Z" ∈ TB := tb_at 645 (by decide +kernel) (by decide +kernel)
theorem lkD_13 : Cond.fieldLink RD 13 "FeedModulusModel" "a" "[I" ∈ TB := tb_at 646 (by decide +kernel) (by decide +kernel)
theorem lkD_17 : Cond.fieldLink RD 17 "FeedModulusModel" "b" "[I" ∈ TB := tb_at 647 (by decide +kernel) (by decide +kernel)
theorem lkD_20 : Cond.fieldLink RD 20 "FeedModulusModel" "c" "[I" ∈ TB := tb_at 648 (by decide +kernel) (by decide +kernel)
theorem lkD_23 : Cond.fieldLink RD 23 "FeedModulusModel" "cools" "[I" ∈ TB := tb_at 649 (by decide +kernel) (by decide +kernel)
theorem lkD_26 : Cond.fieldLink RD 26 "FeedModulusModel" "joined" "[I" ∈ TB := tb_at 650 (by decide +kernel) (by decide +kernel)
theorem lkD_29 : Cond.fieldLink RD 29 "FeedModulusModel" "riserOf" "[I" ∈ TB := tb_at 651 (by decide +kernel) (by decide +kernel)
theorem lkD_32 : Cond.fieldLink RD 32 "FeedModulusModel" "riserD" "[I" ∈ TB := tb_at 653 (by decide +kernel) (by decide +kernel)
theorem lkD_35 : Cond.fieldLink RD 35 "FeedModulusModel" "riserH" "[I" ∈ TB := tb_at 654 (by decide +kernel) (by decide +kernel)
theorem lkD_38 : Cond.fieldLink RD 38 "FeedModulusModel" "opening" "[I" ∈ TB := tb_at 656 (by decide +kernel) (by decide +kernel)
theorem lkD_41 : Cond.fieldLink RD 41 "FeedModulusModel" "flow" "[I" ∈ TB := tb_at 657 (by decide +kernel) (by decide +kernel)
theorem lkD_44 : Cond.fieldLink RD 44 "FeedModulusModel" "width" "I" ∈ TB := tb_at 658 (by decide +kernel) (by decide +kernel)
theorem lkD_48 : Cond.fieldLink RD 48 "FeedModulusModel" "depth" "I" ∈ TB := tb_at 659 (by decide +kernel) (by decide +kernel)
theorem lkD_51 : Cond.fieldLink RD 51 "FeedModulusModel" "thingAcross" "[I" ∈ TB := tb_at 661 (by decide +kernel) (by decide +kernel)
theorem lkD_54 : Cond.fieldLink RD 54 "FeedModulusModel" "thingFrom" "[I" ∈ TB := tb_at 662 (by decide +kernel) (by decide +kernel)
theorem lkD_57 : Cond.fieldLink RD 57 "FeedModulusModel" "thingWide" "[I" ∈ TB := tb_at 663 (by decide +kernel) (by decide +kernel)
theorem lkD_60 : Cond.fieldLink RD 60 "FeedModulusModel" "thingDeep" "[I" ∈ TB := tb_at 664 (by decide +kernel) (by decide +kernel)
theorem calD_init : cal yD_init cD_init 1 none 0 := ⟨tb_at 641 (by decide +kernel) (by decide +kernel), tb_at 32 (by decide +kernel) (by decide +kernel), by decide +kernel, by decide +kernel, by decide +kernel⟩
theorem lkD_63 : Cond.fieldLink RD 63 "FeedModulusModel" "thrown" "I" ∈ TB := tb_at 643 (by decide +kernel) (by decide +kernel)
theorem calD_thrown : cal yD_thrown cD_thrown 1 (some .int) 0 := ⟨tb_at 713 (by decide +kernel) (by decide +kernel), tb_at 32 (by decide +kernel) (by decide +kernel), by decide +kernel, by decide +kernel, by decide +kernel⟩
theorem cvD_thrown : calV yD_thrown := ⟨tb_at 711 (by decide +kernel) (by decide +kernel), tb_at 712 (by decide +kernel) (by decide +kernel)⟩
theorem calD_throwing : cal yD_throwing cD_throwing 4 (some .boolean) 3 := ⟨tb_at 727 (by decide +kernel) (by decide +kernel), tb_at 32 (by decide +kernel) (by decide +kernel), by decide +kernel, by decide +kernel, by decide +kernel⟩
theorem cvD_throwing : calV yD_throwing := ⟨tb_at 726 (by decide +kernel) (by decide +kernel), tb_at 12 (by decide +kernel) (by decide +kernel)⟩
theorem calD_in : cal yD_in cD_in 3 (some .boolean) 3 := ⟨tb_at 723 (by decide +kernel) (by decide +kernel), tb_at 32 (by decide +kernel) (by decide +kernel), by decide +kernel, by decide +kernel, by decide +kernel⟩
theorem cvD_in : calS yD_in := tb_at 722 (by decide +kernel) (by decide +kernel)
theorem mlD_66 : Cond.methodLink RD 66 yD_in ∈ TB := tb_at 721 (by decide +kernel) (by decide +kernel)
theorem calD_isSize : cal yD_isSize cD_isSize 1 (some .boolean) 1 := ⟨tb_at 720 (by decide +kernel) (by decide +kernel), tb_at 32 (by decide +kernel) (by decide +kernel), by decide +kernel, by decide +kernel, by decide +kernel⟩
theorem cvD_isSize : calS yD_isSize := tb_at 719 (by decide +kernel) (by decide +kernel)
theorem lkD_70 : Cond.fieldLink RD 70 "FeedModulusModel" "parts" "I" ∈ TB := tb_at 644 (by decide +kernel) (by decide +kernel)
theorem calD_isPart : cal yD_isPart cD_isPart 2 (some .boolean) 1 := ⟨tb_at 743 (by decide +kernel) (by decide +kernel), tb_at 32 (by decide +kernel) (by decide +kernel), by decide +kernel, by decide +kernel, by decide +kernel⟩
theorem cvD_isPart : calV yD_isPart := ⟨tb_at 742 (by decide +kernel) (by decide +kernel), tb_at 14 (by decide +kernel) (by decide +kernel)⟩
theorem calD_add : cal yD_add cD_add 6 (some .int) 4 := ⟨tb_at 731 (by decide +kernel) (by decide +kernel), tb_at 32 (by decide +kernel) (by decide +kernel), by decide +kernel, by decide +kernel, by decide +kernel⟩
theorem cvD_add : calV yD_add := ⟨tb_at 730 (by decide +kernel) (by decide +kernel), tb_at 13 (by decide +kernel) (by decide +kernel)⟩
theorem mlD_73 : Cond.methodLink RD 73 yD_isSize ∈ TB := tb_at 718 (by decide +kernel) (by decide +kernel)
theorem mlD_77 : Cond.methodLink RD 77 yD_throwing ∈ TB := tb_at 724 (by decide +kernel) (by decide +kernel)
theorem mlD_81 : Cond.methodLink RD 81 yD_add ∈ TB := tb_at 728 (by decide +kernel) (by decide +kernel)
theorem calD_box : cal yD_box cD_box 4 (some .int) 3 := ⟨tb_at 717 (by decide +kernel) (by decide +kernel), tb_at 32 (by decide +kernel) (by decide +kernel), by decide +kernel, by decide +kernel, by decide +kernel⟩
theorem cvD_box : calV yD_box := ⟨tb_at 715 (by decide +kernel) (by decide +kernel), tb_at 716 (by decide +kernel) (by decide +kernel)⟩
theorem calD_cylinder : cal yD_cylinder cD_cylinder 3 (some .int) 2 := ⟨tb_at 735 (by decide +kernel) (by decide +kernel), tb_at 32 (by decide +kernel) (by decide +kernel), by decide +kernel, by decide +kernel, by decide +kernel⟩
theorem cvD_cylinder : calV yD_cylinder := ⟨tb_at 733 (by decide +kernel) (by decide +kernel), tb_at 734 (by decide +kernel) (by decide +kernel)⟩
theorem mlD_85 : Cond.methodLink RD 85 yD_isPart ∈ TB := tb_at 740 (by decide +kernel) (by decide +kernel)
theorem calD_face : cal yD_face cD_face 5 none 3 := ⟨tb_at 739 (by decide +kernel) (by decide +kernel), tb_at 32 (by decide +kernel) (by decide +kernel), by decide +kernel, by decide +kernel, by decide +kernel⟩
theorem cvD_face : calV yD_face := ⟨tb_at 737 (by decide +kernel) (by decide +kernel), tb_at 738 (by decide +kernel) (by decide +kernel)⟩
theorem calD_upOf : cal yD_upOf cD_upOf 2 (some .long) 1 := ⟨tb_at 760 (by decide +kernel) (by decide +kernel), tb_at 32 (by decide +kernel) (by decide +kernel), by decide +kernel, by decide +kernel, by decide +kernel⟩
theorem cvD_upOf : calV yD_upOf := ⟨tb_at 759 (by decide +kernel) (by decide +kernel), tb_at 17 (by decide +kernel) (by decide +kernel)⟩
theorem calD_faces : cal yD_faces cD_faces 3 (some .int) 2 := ⟨tb_at 756 (by decide +kernel) (by decide +kernel), tb_at 32 (by decide +kernel) (by decide +kernel), by decide +kernel, by decide +kernel, by decide +kernel⟩
theorem cvD_faces : calV yD_faces := ⟨tb_at 755 (by decide +kernel) (by decide +kernel), tb_at 16 (by decide +kernel) (by decide +kernel)⟩
theorem kcD_88 : Cond.constantLong RD 88 4 ∈ TB := tb_at 752 (by decide +kernel) (by decide +kernel)
theorem mlD_90 : Cond.methodLink RD 90 yD_faces ∈ TB := tb_at 753 (by decide +kernel) (by decide +kernel)
theorem calD_lowOf : cal yD_lowOf cD_lowOf 2 (some .long) 1 := ⟨tb_at 751 (by decide +kernel) (by decide +kernel), tb_at 32 (by decide +kernel) (by decide +kernel), by decide +kernel, by decide +kernel, by decide +kernel⟩
theorem cvD_lowOf : calV yD_lowOf := ⟨tb_at 750 (by decide +kernel) (by decide +kernel), tb_at 15 (by decide +kernel) (by decide +kernel)⟩
theorem mlD_94 : Cond.methodLink RD 94 yD_lowOf ∈ TB := tb_at 748 (by decide +kernel) (by decide +kernel)
theorem mlD_98 : Cond.methodLink RD 98 yD_upOf ∈ TB := tb_at 757 (by decide +kernel) (by decide +kernel)
theorem calD_modulus : cal yD_modulus cD_modulus 10 (some .long) 2 := ⟨tb_at 747 (by decide +kernel) (by decide +kernel), tb_at 32 (by decide +kernel) (by decide +kernel), by decide +kernel, by decide +kernel, by decide +kernel⟩
theorem cvD_modulus : calV yD_modulus := ⟨tb_at 745 (by decide +kernel) (by decide +kernel), tb_at 746 (by decide +kernel) (by decide +kernel)⟩
theorem calD_compare : cal yD_compare cD_compare 3 (some .long) 2 := ⟨tb_at 776 (by decide +kernel) (by decide +kernel), tb_at 32 (by decide +kernel) (by decide +kernel), by decide +kernel, by decide +kernel, by decide +kernel⟩
theorem cvD_compare : calV yD_compare := ⟨tb_at 775 (by decide +kernel) (by decide +kernel), tb_at 19 (by decide +kernel) (by decide +kernel)⟩
theorem calD_isTold : cal yD_isTold cD_isTold 2 (some .boolean) 1 := ⟨tb_at 772 (by decide +kernel) (by decide +kernel), tb_at 32 (by decide +kernel) (by decide +kernel), by decide +kernel, by decide +kernel, by decide +kernel⟩
theorem cvD_isTold : calV yD_isTold := ⟨tb_at 771 (by decide +kernel) (by decide +kernel), tb_at 18 (by decide +kernel) (by decide +kernel)⟩
theorem calD_join : cal yD_join cD_join 5 none 3 := ⟨tb_at 764 (by decide +kernel) (by decide +kernel), tb_at 32 (by decide +kernel) (by decide +kernel), by decide +kernel, by decide +kernel, by decide +kernel⟩
theorem cvD_join : calV yD_join := ⟨tb_at 762 (by decide +kernel) (by decide +kernel), tb_at 763 (by decide +kernel) (by decide +kernel)⟩
theorem mlD_101 : Cond.methodLink RD 101 yD_isTold ∈ TB := tb_at 769 (by decide +kernel) (by decide +kernel)
theorem mlD_104 : Cond.methodLink RD 104 yD_compare ∈ TB := tb_at 773 (by decide +kernel) (by decide +kernel)
theorem calD_order : cal yD_order cD_order 6 (some .int) 1 := ⟨tb_at 768 (by decide +kernel) (by decide +kernel), tb_at 32 (by decide +kernel) (by decide +kernel), by decide +kernel, by decide +kernel, by decide +kernel⟩
theorem cvD_order : calV yD_order := ⟨tb_at 766 (by decide +kernel) (by decide +kernel), tb_at 767 (by decide +kernel) (by decide +kernel)⟩
theorem lkD_108 : Cond.fieldLink RD 108 "FeedModulusModel" "risers" "I" ∈ TB := tb_at 652 (by decide +kernel) (by decide +kernel)
theorem calD_riserRow : cal yD_riserRow cD_riserRow 3 (some .int) 2 := ⟨tb_at 780 (by decide +kernel) (by decide +kernel), tb_at 32 (by decide +kernel) (by decide +kernel), by decide +kernel, by decide +kernel, by decide +kernel⟩
theorem cvD_riserRow : calV yD_riserRow := ⟨tb_at 778 (by decide +kernel) (by decide +kernel), tb_at 779 (by decide +kernel) (by decide +kernel)⟩
theorem kcD_111 : Cond.constantLong RD 111 5 ∈ TB := tb_at 789 (by decide +kernel) (by decide +kernel)
theorem kcD_113 : Cond.constantLong RD 113 6 ∈ TB := tb_at 790 (by decide +kernel) (by decide +kernel)
theorem calD_rowFor : cal yD_rowFor cD_rowFor 8 (some .int) 1 := ⟨tb_at 788 (by decide +kernel) (by decide +kernel), tb_at 32 (by decide +kernel) (by decide +kernel), by decide +kernel, by decide +kernel, by decide +kernel⟩
theorem cvD_rowFor : calV yD_rowFor := ⟨tb_at 787 (by decide +kernel) (by decide +kernel), tb_at 20 (by decide +kernel) (by decide +kernel)⟩
theorem mlD_115 : Cond.methodLink RD 115 yD_rowFor ∈ TB := tb_at 785 (by decide +kernel) (by decide +kernel)
theorem calD_riser : cal yD_riser cD_riser 4 (some .int) 1 := ⟨tb_at 784 (by decide +kernel) (by decide +kernel), tb_at 32 (by decide +kernel) (by decide +kernel), by decide +kernel, by decide +kernel, by decide +kernel⟩
theorem cvD_riser : calV yD_riser := ⟨tb_at 782 (by decide +kernel) (by decide +kernel), tb_at 783 (by decide +kernel) (by decide +kernel)⟩
theorem calD_cutOff : cal yD_cutOff cD_cutOff 3 none 1 := ⟨tb_at 794 (by decide +kernel) (by decide +kernel), tb_at 32 (by decide +kernel) (by decide +kernel), by decide +kernel, by decide +kernel, by decide +kernel⟩
theorem cvD_cutOff : calV yD_cutOff := ⟨tb_at 792 (by decide +kernel) (by decide +kernel), tb_at 793 (by decide +kernel) (by decide +kernel)⟩
theorem calD_feederOf : cal yD_feederOf cD_feederOf 5 (some .int) 1 := ⟨tb_at 802 (by decide +kernel) (by decide +kernel), tb_at 32 (by decide +kernel) (by decide +kernel), by decide +kernel, by decide +kernel, by decide +kernel⟩
theorem cvD_feederOf : calV yD_feederOf := ⟨tb_at 801 (by decide +kernel) (by decide +kernel), tb_at 21 (by decide +kernel) (by decide +kernel)⟩
theorem mlD_119 : Cond.methodLink RD 119 yD_feederOf ∈ TB := tb_at 799 (by decide +kernel) (by decide +kernel)
theorem calD_feeder : cal yD_feeder cD_feeder 2 (some .int) 1 := ⟨tb_at 798 (by decide +kernel) (by decide +kernel), tb_at 32 (by decide +kernel) (by decide +kernel), by decide +kernel, by decide +kernel, by decide +kernel⟩
theorem cvD_feeder : calV yD_feeder := ⟨tb_at 796 (by decide +kernel) (by decide +kernel), tb_at 797 (by decide +kernel) (by decide +kernel)⟩
theorem calD_unfed : cal yD_unfed cD_unfed 4 (some .int) 1 := ⟨tb_at 806 (by decide +kernel) (by decide +kernel), tb_at 32 (by decide +kernel) (by decide +kernel), by decide +kernel, by decide +kernel, by decide +kernel⟩
theorem cvD_unfed : calV yD_unfed := ⟨tb_at 804 (by decide +kernel) (by decide +kernel), tb_at 805 (by decide +kernel) (by decide +kernel)⟩
theorem lkD_122 : Cond.fieldLink RD 122 "FeedModulusModel" "flows" "I" ∈ TB := tb_at 655 (by decide +kernel) (by decide +kernel)
theorem kcD_125 : Cond.constant RD 125 1000000 ∈ TB := tb_at 811 (by decide +kernel) (by decide +kernel)
theorem calD_flowRow : cal yD_flowRow cD_flowRow 5 (some .int) 2 := ⟨tb_at 810 (by decide +kernel) (by decide +kernel), tb_at 32 (by decide +kernel) (by decide +kernel), by decide +kernel, by decide +kernel, by decide +kernel⟩
theorem cvD_flowRow : calV yD_flowRow := ⟨tb_at 808 (by decide +kernel) (by decide +kernel), tb_at 809 (by decide +kernel) (by decide +kernel)⟩
theorem calD_flowAt : cal yD_flowAt cD_flowAt 5 (some .int) 1 := ⟨tb_at 819 (by decide +kernel) (by decide +kernel), tb_at 32 (by decide +kernel) (by decide +kernel), by decide +kernel, by decide +kernel, by decide +kernel⟩
theorem cvD_flowAt : calV yD_flowAt := ⟨tb_at 818 (by decide +kernel) (by decide +kernel), tb_at 22 (by decide +kernel) (by decide +kernel)⟩
theorem mlD_126 : Cond.methodLink RD 126 yD_flowAt ∈ TB := tb_at 816 (by decide +kernel) (by decide +kernel)
theorem calD_flow : cal yD_flow cD_flow 2 (some .int) 1 := ⟨tb_at 815 (by decide +kernel) (by decide +kernel), tb_at 32 (by decide +kernel) (by decide +kernel), by decide +kernel, by decide +kernel, by decide +kernel⟩
theorem cvD_flow : calV yD_flow := ⟨tb_at 813 (by decide +kernel) (by decide +kernel), tb_at 814 (by decide +kernel) (by decide +kernel)⟩
theorem calD_gate : cal yD_gate cD_gate 7 (some .int) 1 := ⟨tb_at 823 (by decide +kernel) (by decide +kernel), tb_at 32 (by decide +kernel) (by decide +kernel), by decide +kernel, by decide +kernel, by decide +kernel⟩
theorem cvD_gate : calV yD_gate := ⟨tb_at 821 (by decide +kernel) (by decide +kernel), tb_at 822 (by decide +kernel) (by decide +kernel)⟩
theorem calD_pattern : cal yD_pattern cD_pattern 3 (some .int) 2 := ⟨tb_at 827 (by decide +kernel) (by decide +kernel), tb_at 32 (by decide +kernel) (by decide +kernel), by decide +kernel, by decide +kernel, by decide +kernel⟩
theorem cvD_pattern : calV yD_pattern := ⟨tb_at 825 (by decide +kernel) (by decide +kernel), tb_at 826 (by decide +kernel) (by decide +kernel)⟩
theorem calD_isWide : cal yD_isWide cD_isWide 1 (some .boolean) 1 := ⟨tb_at 834 (by decide +kernel) (by decide +kernel), tb_at 32 (by decide +kernel) (by decide +kernel), by decide +kernel, by decide +kernel, by decide +kernel⟩
theorem cvD_isWide : calS yD_isWide := tb_at 833 (by decide +kernel) (by decide +kernel)
theorem mlD_129 : Cond.methodLink RD 129 yD_isWide ∈ TB := tb_at 832 (by decide +kernel) (by decide +kernel)
theorem lkD_132 : Cond.fieldLink RD 132 "FeedModulusModel" "things" "I" ∈ TB := tb_at 660 (by decide +kernel) (by decide +kernel)
theorem calD_molding : cal yD_molding cD_molding 3 none 2 := ⟨tb_at 831 (by decide +kernel) (by decide +kernel), tb_at 32 (by decide +kernel) (by decide +kernel), by decide +kernel, by decide +kernel, by decide +kernel⟩
theorem cvD_molding : calV yD_molding := ⟨tb_at 829 (by decide +kernel) (by decide +kernel), tb_at 830 (by decide +kernel) (by decide +kernel)⟩
theorem calD_taken : cal yD_taken cD_taken 4 (some .int) 1 := ⟨tb_at 846 (by decide +kernel) (by decide +kernel), tb_at 32 (by decide +kernel) (by decide +kernel), by decide +kernel, by decide +kernel, by decide +kernel⟩
theorem cvD_taken : calV yD_taken := ⟨tb_at 845 (by decide +kernel) (by decide +kernel), tb_at 24 (by decide +kernel) (by decide +kernel)⟩
theorem mlD_135 : Cond.methodLink RD 135 yD_taken ∈ TB := tb_at 843 (by decide +kernel) (by decide +kernel)
theorem calD_shelfFor : cal yD_shelfFor cD_shelfFor 5 (some .int) 2 := ⟨tb_at 842 (by decide +kernel) (by decide +kernel), tb_at 32 (by decide +kernel) (by decide +kernel), by decide +kernel, by decide +kernel, by decide +kernel⟩
theorem cvD_shelfFor : calV yD_shelfFor := ⟨tb_at 841 (by decide +kernel) (by decide +kernel), tb_at 23 (by decide +kernel) (by decide +kernel)⟩
theorem calD_shelvesEnd : cal yD_shelvesEnd cD_shelvesEnd 4 (some .int) 0 := ⟨tb_at 850 (by decide +kernel) (by decide +kernel), tb_at 32 (by decide +kernel) (by decide +kernel), by decide +kernel, by decide +kernel, by decide +kernel⟩
theorem cvD_shelvesEnd : calV yD_shelvesEnd := ⟨tb_at 849 (by decide +kernel) (by decide +kernel), tb_at 25 (by decide +kernel) (by decide +kernel)⟩
theorem mlD_138 : Cond.methodLink RD 138 yD_shelfFor ∈ TB := tb_at 839 (by decide +kernel) (by decide +kernel)
theorem mlD_141 : Cond.methodLink RD 141 yD_shelvesEnd ∈ TB := tb_at 847 (by decide +kernel) (by decide +kernel)
theorem calD_pack : cal yD_pack cD_pack 6 (some .int) 2 := ⟨tb_at 838 (by decide +kernel) (by decide +kernel), tb_at 32 (by decide +kernel) (by decide +kernel), by decide +kernel, by decide +kernel, by decide +kernel⟩
theorem cvD_pack : calV yD_pack := ⟨tb_at 836 (by decide +kernel) (by decide +kernel), tb_at 837 (by decide +kernel) (by decide +kernel)⟩
theorem calD_packed : cal yD_packed cD_packed 3 (some .int) 2 := ⟨tb_at 854 (by decide +kernel) (by decide +kernel), tb_at 32 (by decide +kernel) (by decide +kernel), by decide +kernel, by decide +kernel, by decide +kernel⟩
theorem cvD_packed : calV yD_packed := ⟨tb_at 852 (by decide +kernel) (by decide +kernel), tb_at 853 (by decide +kernel) (by decide +kernel)⟩
theorem mlF_3 : Cond.methodLink RF 3 ⟨"java/lang/Object", "<init>", "()V"⟩ ∈ TB := tb_at 104 (by decide +kernel) (by decide +kernel)
theorem lkF_9 : Cond.fieldLink RF 9 "FeedModulus$FlowTable" "openings" "[I" ∈ TB := tb_at 105 (by decide +kernel) (by decide +kernel)
theorem lkF_15 : Cond.fieldLink RF 15 "FeedModulus$FlowTable" "flows" "[I" ∈ TB := tb_at 106 (by decide +kernel) (by decide +kernel)
theorem calF_init : cal yF_init cF_init 1 none 0 := ⟨tb_at 103 (by decide +kernel) (by decide +kernel), tb_at 30 (by decide +kernel) (by decide +kernel), by decide +kernel, by decide +kernel, by decide +kernel⟩
theorem lkF_18 : Cond.fieldLink RF 18 "FeedModulus$FlowTable" "count" "I" ∈ TB := tb_at 107 (by decide +kernel) (by decide +kernel)
theorem calF_isFull : cal yF_isFull cF_isFull 1 (some .boolean) 0 := ⟨tb_at 511 (by decide +kernel) (by decide +kernel), tb_at 30 (by decide +kernel) (by decide +kernel), by decide +kernel, by decide +kernel, by decide +kernel⟩
theorem cvF_isFull : calV yF_isFull := ⟨tb_at 509 (by decide +kernel) (by decide +kernel), tb_at 510 (by decide +kernel) (by decide +kernel)⟩
theorem calF_isEmpty : cal yF_isEmpty cF_isEmpty 1 (some .boolean) 0 := ⟨tb_at 545 (by decide +kernel) (by decide +kernel), tb_at 30 (by decide +kernel) (by decide +kernel), by decide +kernel, by decide +kernel, by decide +kernel⟩
theorem cvF_isEmpty : calV yF_isEmpty := ⟨tb_at 543 (by decide +kernel) (by decide +kernel), tb_at 544 (by decide +kernel) (by decide +kernel)⟩
theorem calF_mayFollow : cal yF_mayFollow cF_mayFollow 3 (some .boolean) 2 := ⟨tb_at 525 (by decide +kernel) (by decide +kernel), tb_at 30 (by decide +kernel) (by decide +kernel), by decide +kernel, by decide +kernel, by decide +kernel⟩
theorem cvF_mayFollow : calV yF_mayFollow := ⟨tb_at 523 (by decide +kernel) (by decide +kernel), tb_at 524 (by decide +kernel) (by decide +kernel)⟩
theorem calF_addRow : cal yF_addRow cF_addRow 3 (some .int) 2 := ⟨tb_at 530 (by decide +kernel) (by decide +kernel), tb_at 30 (by decide +kernel) (by decide +kernel), by decide +kernel, by decide +kernel, by decide +kernel⟩
theorem cvF_addRow : calV yF_addRow := ⟨tb_at 528 (by decide +kernel) (by decide +kernel), tb_at 529 (by decide +kernel) (by decide +kernel)⟩
theorem mlF_22 : Cond.methodLink RF 22 yF_flowBetween ∈ TB := tb_at 551 (by decide +kernel) (by decide +kernel)
theorem calF_flowAt : cal yF_flowAt cF_flowAt 4 (some .int) 1 := ⟨tb_at 550 (by decide +kernel) (by decide +kernel), tb_at 30 (by decide +kernel) (by decide +kernel), by decide +kernel, by decide +kernel, by decide +kernel⟩
theorem cvF_flowAt : calV yF_flowAt := ⟨tb_at 548 (by decide +kernel) (by decide +kernel), tb_at 549 (by decide +kernel) (by decide +kernel)⟩
theorem calF_flowBetween : cal yF_flowBetween cF_flowBetween 7 (some .int) 3 := ⟨tb_at 554 (by decide +kernel) (by decide +kernel), tb_at 30 (by decide +kernel) (by decide +kernel), by decide +kernel, by decide +kernel, by decide +kernel⟩
theorem cvF_flowBetween : calV yF_flowBetween := ⟨tb_at 553 (by decide +kernel) (by decide +kernel), tb_at 10 (by decide +kernel) (by decide +kernel)⟩
theorem mlF_26 : Cond.methodLink RF 26 yF_flowAt ∈ TB := tb_at 567 (by decide +kernel) (by decide +kernel)
theorem calF_leastOpeningFor : cal yF_leastOpeningFor cF_leastOpeningFor 6 (some .int) 1 := ⟨tb_at 566 (by decide +kernel) (by decide +kernel), tb_at 30 (by decide +kernel) (by decide +kernel), by decide +kernel, by decide +kernel, by decide +kernel⟩
theorem cvF_leastOpeningFor : calV yF_leastOpeningFor := ⟨tb_at 564 (by decide +kernel) (by decide +kernel), tb_at 565 (by decide +kernel) (by decide +kernel)⟩
theorem mlM_3 : Cond.methodLink RM 3 ⟨"java/lang/Object", "<init>", "()V"⟩ ∈ TB := tb_at 120 (by decide +kernel) (by decide +kernel)
theorem lkM_9 : Cond.fieldLink RM 9 "FeedModulus$MoldingBox" "thingsAlongWidth" "[I" ∈ TB := tb_at 121 (by decide +kernel) (by decide +kernel)
theorem lkM_15 : Cond.fieldLink RM 15 "FeedModulus$MoldingBox" "thingsAlongDepth" "[I" ∈ TB := tb_at 122 (by decide +kernel) (by decide +kernel)
theorem lkM_18 : Cond.fieldLink RM 18 "FeedModulus$MoldingBox" "shelfBegins" "[I" ∈ TB := tb_at 123 (by decide +kernel) (by decide +kernel)
theorem lkM_21 : Cond.fieldLink RM 21 "FeedModulus$MoldingBox" "shelfDepths" "[I" ∈ TB := tb_at 124 (by decide +kernel) (by decide +kernel)
theorem lkM_24 : Cond.fieldLink RM 24 "FeedModulus$MoldingBox" "shelfWidthsUsed" "[I" ∈ TB := tb_at 125 (by decide +kernel) (by decide +kernel)
theorem lkM_27 : Cond.fieldLink RM 27 "FeedModulus$MoldingBox" "width" "I" ∈ TB := tb_at 126 (by decide +kernel) (by decide +kernel)
theorem lkM_31 : Cond.fieldLink RM 31 "FeedModulus$MoldingBox" "depth" "I" ∈ TB := tb_at 127 (by decide +kernel) (by decide +kernel)
theorem calM_init : cal yM_init cM_init 1 none 0 := ⟨tb_at 119 (by decide +kernel) (by decide +kernel), tb_at 31 (by decide +kernel) (by decide +kernel), by decide +kernel, by decide +kernel, by decide +kernel⟩
theorem lkM_34 : Cond.fieldLink RM 34 "FeedModulus$MoldingBox" "depthUsed" "I" ∈ TB := tb_at 128 (by decide +kernel) (by decide +kernel)
theorem lkM_37 : Cond.fieldLink RM 37 "FeedModulus$MoldingBox" "things" "I" ∈ TB := tb_at 129 (by decide +kernel) (by decide +kernel)
theorem lkM_40 : Cond.fieldLink RM 40 "FeedModulus$MoldingBox" "shelves" "I" ∈ TB := tb_at 130 (by decide +kernel) (by decide +kernel)
theorem calM_clearTo : cal yM_clearTo cM_clearTo 3 none 2 := ⟨tb_at 590 (by decide +kernel) (by decide +kernel), tb_at 31 (by decide +kernel) (by decide +kernel), by decide +kernel, by decide +kernel, by decide +kernel⟩
theorem cvM_clearTo : calV yM_clearTo := ⟨tb_at 588 (by decide +kernel) (by decide +kernel), tb_at 589 (by decide +kernel) (by decide +kernel)⟩
theorem calM_isFull : cal yM_isFull cM_isFull 1 (some .boolean) 0 := ⟨tb_at 601 (by decide +kernel) (by decide +kernel), tb_at 31 (by decide +kernel) (by decide +kernel), by decide +kernel, by decide +kernel, by decide +kernel⟩
theorem cvM_isFull : calV yM_isFull := ⟨tb_at 599 (by decide +kernel) (by decide +kernel), tb_at 600 (by decide +kernel) (by decide +kernel)⟩
theorem calM_hasThing : cal yM_hasThing cM_hasThing 2 (some .boolean) 1 := ⟨tb_at 626 (by decide +kernel) (by decide +kernel), tb_at 31 (by decide +kernel) (by decide +kernel), by decide +kernel, by decide +kernel, by decide +kernel⟩
theorem cvM_hasThing : calV yM_hasThing := ⟨tb_at 624 (by decide +kernel) (by decide +kernel), tb_at 625 (by decide +kernel) (by decide +kernel)⟩
theorem calM_shelfFor : cal yM_shelfFor cM_shelfFor 4 (some .int) 2 := ⟨tb_at 606 (by decide +kernel) (by decide +kernel), tb_at 31 (by decide +kernel) (by decide +kernel), by decide +kernel, by decide +kernel, by decide +kernel⟩
theorem cvM_shelfFor : calV yM_shelfFor := ⟨tb_at 604 (by decide +kernel) (by decide +kernel), tb_at 605 (by decide +kernel) (by decide +kernel)⟩
theorem mlM_43 : Cond.methodLink RM 43 yM_openShelf ∈ TB := tb_at 612 (by decide +kernel) (by decide +kernel)
theorem calM_putOn : cal yM_putOn cM_putOn 5 (some .int) 3 := ⟨tb_at 611 (by decide +kernel) (by decide +kernel), tb_at 31 (by decide +kernel) (by decide +kernel), by decide +kernel, by decide +kernel, by decide +kernel⟩
theorem cvM_putOn : calV yM_putOn := ⟨tb_at 609 (by decide +kernel) (by decide +kernel), tb_at 610 (by decide +kernel) (by decide +kernel)⟩
theorem calM_openShelf : cal yM_openShelf cM_openShelf 2 none 1 := ⟨tb_at 615 (by decide +kernel) (by decide +kernel), tb_at 31 (by decide +kernel) (by decide +kernel), by decide +kernel, by decide +kernel, by decide +kernel⟩
theorem cvM_openShelf : calV yM_openShelf := ⟨tb_at 614 (by decide +kernel) (by decide +kernel), tb_at 11 (by decide +kernel) (by decide +kernel)⟩
theorem calM_alongWidth : cal yM_alongWidth cM_alongWidth 2 (some .int) 1 := ⟨tb_at 632 (by decide +kernel) (by decide +kernel), tb_at 31 (by decide +kernel) (by decide +kernel), by decide +kernel, by decide +kernel, by decide +kernel⟩
theorem cvM_alongWidth : calV yM_alongWidth := ⟨tb_at 630 (by decide +kernel) (by decide +kernel), tb_at 631 (by decide +kernel) (by decide +kernel)⟩
theorem calM_alongDepth : cal yM_alongDepth cM_alongDepth 2 (some .int) 1 := ⟨tb_at 636 (by decide +kernel) (by decide +kernel), tb_at 31 (by decide +kernel) (by decide +kernel), by decide +kernel, by decide +kernel, by decide +kernel⟩
theorem cvM_alongDepth : calV yM_alongDepth := ⟨tb_at 634 (by decide +kernel) (by decide +kernel), tb_at 635 (by decide +kernel) (by decide +kernel)⟩
theorem mlP_3 : Cond.methodLink RP 3 ⟨"java/lang/Object", "<init>", "()V"⟩ ∈ TB := tb_at 54 (by decide +kernel) (by decide +kernel)
theorem lkP_9 : Cond.fieldLink RP 9 "FeedModulus$Parts" "uppers" "[J" ∈ TB := tb_at 55 (by decide +kernel) (by decide +kernel)
theorem lkP_15 : Cond.fieldLink RP 15 "FeedModulus$Parts" "lowers" "[J" ∈ TB := tb_at 56 (by decide +kernel) (by decide +kernel)
theorem lkP_18 : Cond.fieldLink RP 18 "FeedModulus$Parts" "faces" "[I" ∈ TB := tb_at 57 (by decide +kernel) (by decide +kernel)
theorem lkP_22 : Cond.fieldLink RP 22 "FeedModulus$Parts" "weights" "[I" ∈ TB := tb_at 58 (by decide +kernel) (by decide +kernel)
theorem lkP_25 : Cond.fieldLink RP 25 "FeedModulus$Parts" "times" "[I" ∈ TB := tb_at 59 (by decide +kernel) (by decide +kernel)
theorem lkP_28 : Cond.fieldLink RP 28 "FeedModulus$Parts" "risers" "[I" ∈ TB := tb_at 60 (by decide +kernel) (by decide +kernel)
theorem lkP_31 : Cond.fieldLink RP 31 "FeedModulus$Parts" "joints" "[Z" ∈ TB := tb_at 61 (by decide +kernel) (by decide +kernel)
theorem calP_init : cal yP_init cP_init 1 none 0 := ⟨tb_at 53 (by decide +kernel) (by decide +kernel), tb_at 28 (by decide +kernel) (by decide +kernel), by decide +kernel, by decide +kernel, by decide +kernel⟩
theorem lkP_35 : Cond.fieldLink RP 35 "FeedModulus$Parts" "count" "I" ∈ TB := tb_at 62 (by decide +kernel) (by decide +kernel)
theorem calP_count : cal yP_count cP_count 1 (some .int) 0 := ⟨tb_at 414 (by decide +kernel) (by decide +kernel), tb_at 28 (by decide +kernel) (by decide +kernel), by decide +kernel, by decide +kernel, by decide +kernel⟩
theorem cvP_count : calV yP_count := ⟨tb_at 412 (by decide +kernel) (by decide +kernel), tb_at 413 (by decide +kernel) (by decide +kernel)⟩
theorem calP_isFull : cal yP_isFull cP_isFull 1 (some .boolean) 0 := ⟨tb_at 181 (by decide +kernel) (by decide +kernel), tb_at 28 (by decide +kernel) (by decide +kernel), by decide +kernel, by decide +kernel, by decide +kernel⟩
theorem cvP_isFull : calV yP_isFull := ⟨tb_at 179 (by decide +kernel) (by decide +kernel), tb_at 180 (by decide +kernel) (by decide +kernel)⟩
theorem calP_has : cal yP_has cP_has 2 (some .boolean) 1 := ⟨tb_at 312 (by decide +kernel) (by decide +kernel), tb_at 28 (by decide +kernel) (by decide +kernel), by decide +kernel, by decide +kernel, by decide +kernel⟩
theorem cvP_has : calV yP_has := ⟨tb_at 310 (by decide +kernel) (by decide +kernel), tb_at 311 (by decide +kernel) (by decide +kernel)⟩
theorem calP_hasFace : cal yP_hasFace cP_hasFace 3 (some .boolean) 2 := ⟨tb_at 332 (by decide +kernel) (by decide +kernel), tb_at 28 (by decide +kernel) (by decide +kernel), by decide +kernel, by decide +kernel, by decide +kernel⟩
theorem cvP_hasFace : calV yP_hasFace := ⟨tb_at 330 (by decide +kernel) (by decide +kernel), tb_at 331 (by decide +kernel) (by decide +kernel)⟩
theorem mlP_39 : Cond.methodLink RP 39 yP_open ∈ TB := tb_at 274 (by decide +kernel) (by decide +kernel)
theorem mlP_43 : Cond.methodLink RP 43 yP_addFace ∈ TB := tb_at 278 (by decide +kernel) (by decide +kernel)
theorem calP_addBox : cal yP_addBox cP_addBox 5 (some .int) 3 := ⟨tb_at 273 (by decide +kernel) (by decide +kernel), tb_at 28 (by decide +kernel) (by decide +kernel), by decide +kernel, by decide +kernel, by decide +kernel⟩
theorem cvP_addBox : calV yP_addBox := ⟨tb_at 271 (by decide +kernel) (by decide +kernel), tb_at 272 (by decide +kernel) (by decide +kernel)⟩
theorem calP_addCylinder : cal yP_addCylinder cP_addCylinder 4 (some .int) 2 := ⟨tb_at 296 (by decide +kernel) (by decide +kernel), tb_at 28 (by decide +kernel) (by decide +kernel), by decide +kernel, by decide +kernel, by decide +kernel⟩
theorem cvP_addCylinder : calV yP_addCylinder := ⟨tb_at 294 (by decide +kernel) (by decide +kernel), tb_at 295 (by decide +kernel) (by decide +kernel)⟩
theorem calP_open : cal yP_open cP_open 5 (some .int) 2 := ⟨tb_at 277 (by decide +kernel) (by decide +kernel), tb_at 28 (by decide +kernel) (by decide +kernel), by decide +kernel, by decide +kernel, by decide +kernel⟩
theorem cvP_open : calV yP_open := ⟨tb_at 276 (by decide +kernel) (by decide +kernel), tb_at 2 (by decide +kernel) (by decide +kernel)⟩
theorem mlP_47 : Cond.methodLink RP 47 yP_setTimes ∈ TB := tb_at 282 (by decide +kernel) (by decide +kernel)
theorem calP_addFace : cal yP_addFace cP_addFace 4 none 3 := ⟨tb_at 281 (by decide +kernel) (by decide +kernel), tb_at 28 (by decide +kernel) (by decide +kernel), by decide +kernel, by decide +kernel, by decide +kernel⟩
theorem cvP_addFace : calV yP_addFace := ⟨tb_at 280 (by decide +kernel) (by decide +kernel), tb_at 3 (by decide +kernel) (by decide +kernel)⟩
theorem calP_setTimes : cal yP_setTimes cP_setTimes 5 none 3 := ⟨tb_at 285 (by decide +kernel) (by decide +kernel), tb_at 28 (by decide +kernel) (by decide +kernel), by decide +kernel, by decide +kernel, by decide +kernel⟩
theorem cvP_setTimes : calV yP_setTimes := ⟨tb_at 283 (by decide +kernel) (by decide +kernel), tb_at 284 (by decide +kernel) (by decide +kernel)⟩
theorem calP_upper : cal yP_upper cP_upper 2 (some .long) 1 := ⟨tb_at 372 (by decide +kernel) (by decide +kernel), tb_at 28 (by decide +kernel) (by decide +kernel), by decide +kernel, by decide +kernel, by decide +kernel⟩
theorem cvP_upper : calV yP_upper := ⟨tb_at 370 (by decide +kernel) (by decide +kernel), tb_at 371 (by decide +kernel) (by decide +kernel)⟩
theorem calP_lower : cal yP_lower cP_lower 2 (some .long) 1 := ⟨tb_at 376 (by decide +kernel) (by decide +kernel), tb_at 28 (by decide +kernel) (by decide +kernel), by decide +kernel, by decide +kernel, by decide +kernel⟩
theorem cvP_lower : calV yP_lower := ⟨tb_at 374 (by decide +kernel) (by decide +kernel), tb_at 375 (by decide +kernel) (by decide +kernel)⟩
theorem calP_isTold : cal yP_isTold cP_isTold 2 (some .boolean) 1 := ⟨tb_at 352 (by decide +kernel) (by decide +kernel), tb_at 28 (by decide +kernel) (by decide +kernel), by decide +kernel, by decide +kernel, by decide +kernel⟩
theorem cvP_isTold : calV yP_isTold := ⟨tb_at 350 (by decide +kernel) (by decide +kernel), tb_at 351 (by decide +kernel) (by decide +kernel)⟩
theorem calP_areJoined : cal yP_areJoined cP_areJoined 3 (some .boolean) 2 := ⟨tb_at 394 (by decide +kernel) (by decide +kernel), tb_at 28 (by decide +kernel) (by decide +kernel), by decide +kernel, by decide +kernel, by decide +kernel⟩
theorem cvP_areJoined : calV yP_areJoined := ⟨tb_at 392 (by decide +kernel) (by decide +kernel), tb_at 393 (by decide +kernel) (by decide +kernel)⟩
theorem calP_setJoined : cal yP_setJoined cP_setJoined 4 none 3 := ⟨tb_at 399 (by decide +kernel) (by decide +kernel), tb_at 28 (by decide +kernel) (by decide +kernel), by decide +kernel, by decide +kernel, by decide +kernel⟩
theorem cvP_setJoined : calV yP_setJoined := ⟨tb_at 397 (by decide +kernel) (by decide +kernel), tb_at 398 (by decide +kernel) (by decide +kernel)⟩
theorem calP_riserOf : cal yP_riserOf cP_riserOf 2 (some .int) 1 := ⟨tb_at 476 (by decide +kernel) (by decide +kernel), tb_at 28 (by decide +kernel) (by decide +kernel), by decide +kernel, by decide +kernel, by decide +kernel⟩
theorem cvP_riserOf : calV yP_riserOf := ⟨tb_at 474 (by decide +kernel) (by decide +kernel), tb_at 475 (by decide +kernel) (by decide +kernel)⟩
theorem calP_setRiser : cal yP_setRiser cP_setRiser 3 none 2 := ⟨tb_at 465 (by decide +kernel) (by decide +kernel), tb_at 28 (by decide +kernel) (by decide +kernel), by decide +kernel, by decide +kernel, by decide +kernel⟩
theorem cvP_setRiser : calV yP_setRiser := ⟨tb_at 463 (by decide +kernel) (by decide +kernel), tb_at 464 (by decide +kernel) (by decide +kernel)⟩
theorem mlP_50 : Cond.methodLink RP 50 yJ_compare ∈ TB := tb_at 428 (by decide +kernel) (by decide +kernel)
theorem calP_compare : cal yP_compare cP_compare 3 (some .int) 2 := ⟨tb_at 427 (by decide +kernel) (by decide +kernel), tb_at 28 (by decide +kernel) (by decide +kernel), by decide +kernel, by decide +kernel, by decide +kernel⟩
theorem cvP_compare : calV yP_compare := ⟨tb_at 426 (by decide +kernel) (by decide +kernel), tb_at 7 (by decide +kernel) (by decide +kernel)⟩
theorem mlP_56 : Cond.methodLink RP 56 yP_isTold ∈ TB := tb_at 419 (by decide +kernel) (by decide +kernel)
theorem mlP_60 : Cond.methodLink RP 60 yP_isEarlier ∈ TB := tb_at 420 (by decide +kernel) (by decide +kernel)
theorem calP_solidBefore : cal yP_solidBefore cP_solidBefore 4 (some .int) 1 := ⟨tb_at 418 (by decide +kernel) (by decide +kernel), tb_at 28 (by decide +kernel) (by decide +kernel), by decide +kernel, by decide +kernel, by decide +kernel⟩
theorem cvP_solidBefore : calV yP_solidBefore := ⟨tb_at 416 (by decide +kernel) (by decide +kernel), tb_at 417 (by decide +kernel) (by decide +kernel)⟩
theorem mlP_64 : Cond.methodLink RP 64 yP_compare ∈ TB := tb_at 424 (by decide +kernel) (by decide +kernel)
theorem calP_isEarlier : cal yP_isEarlier cP_isEarlier 4 (some .boolean) 2 := ⟨tb_at 423 (by decide +kernel) (by decide +kernel), tb_at 28 (by decide +kernel) (by decide +kernel), by decide +kernel, by decide +kernel, by decide +kernel⟩
theorem cvP_isEarlier : calV yP_isEarlier := ⟨tb_at 422 (by decide +kernel) (by decide +kernel), tb_at 6 (by decide +kernel) (by decide +kernel)⟩
theorem mlP_67 : Cond.methodLink RP 67 yP_areJoined ∈ TB := tb_at 493 (by decide +kernel) (by decide +kernel)
theorem calP_greatestNeighbour : cal yP_greatestNeighbour cP_greatestNeighbour 4 (some .int) 1 := ⟨tb_at 492 (by decide +kernel) (by decide +kernel), tb_at 28 (by decide +kernel) (by decide +kernel), by decide +kernel, by decide +kernel, by decide +kernel⟩
theorem cvP_greatestNeighbour : calV yP_greatestNeighbour := ⟨tb_at 490 (by decide +kernel) (by decide +kernel), tb_at 491 (by decide +kernel) (by decide +kernel)⟩
theorem mlR_3 : Cond.methodLink RR 3 ⟨"java/lang/Object", "<init>", "()V"⟩ ∈ TB := tb_at 88 (by decide +kernel) (by decide +kernel)
theorem lkR_9 : Cond.fieldLink RR 9 "FeedModulus$RiserTable" "uppers" "[J" ∈ TB := tb_at 89 (by decide +kernel) (by decide +kernel)
theorem lkR_15 : Cond.fieldLink RR 15 "FeedModulus$RiserTable" "lowers" "[J" ∈ TB := tb_at 90 (by decide +kernel) (by decide +kernel)
theorem calR_init : cal yR_init cR_init 1 none 0 := ⟨tb_at 87 (by decide +kernel) (by decide +kernel), tb_at 29 (by decide +kernel) (by decide +kernel), by decide +kernel, by decide +kernel, by decide +kernel⟩
theorem lkR_18 : Cond.fieldLink RR 18 "FeedModulus$RiserTable" "count" "I" ∈ TB := tb_at 91 (by decide +kernel) (by decide +kernel)
theorem calR_isFull : cal yR_isFull cR_isFull 1 (some .boolean) 0 := ⟨tb_at 441 (by decide +kernel) (by decide +kernel), tb_at 29 (by decide +kernel) (by decide +kernel), by decide +kernel, by decide +kernel, by decide +kernel⟩
theorem cvR_isFull : calV yR_isFull := ⟨tb_at 439 (by decide +kernel) (by decide +kernel), tb_at 440 (by decide +kernel) (by decide +kernel)⟩
theorem kcR_22 : Cond.constantLong RR 22 4 ∈ TB := tb_at 447 (by decide +kernel) (by decide +kernel)
theorem calR_addRow : cal yR_addRow cR_addRow 3 (some .int) 2 := ⟨tb_at 446 (by decide +kernel) (by decide +kernel), tb_at 29 (by decide +kernel) (by decide +kernel), by decide +kernel, by decide +kernel, by decide +kernel⟩
theorem cvR_addRow : calV yR_addRow := ⟨tb_at 444 (by decide +kernel) (by decide +kernel), tb_at 445 (by decide +kernel) (by decide +kernel)⟩
theorem kcR_24 : Cond.constantLong RR 24 5 ∈ TB := tb_at 459 (by decide +kernel) (by decide +kernel)
theorem kcR_26 : Cond.constantLong RR 26 6 ∈ TB := tb_at 460 (by decide +kernel) (by decide +kernel)
theorem calR_firstFor : cal yR_firstFor cR_firstFor 6 (some .int) 2 := ⟨tb_at 458 (by decide +kernel) (by decide +kernel), tb_at 29 (by decide +kernel) (by decide +kernel), by decide +kernel, by decide +kernel, by decide +kernel⟩
theorem cvR_firstFor : calV yR_firstFor := ⟨tb_at 456 (by decide +kernel) (by decide +kernel), tb_at 457 (by decide +kernel) (by decide +kernel)⟩
theorem mlL_7 : Cond.methodLink RL 7 yX_box ∈ TB := tb_at 170 (by decide +kernel) (by decide +kernel)
-- no code word: ⟨"FeedModulusLaw", "box", "(LFeedModulus;III[J)I"⟩
theorem mlL_17 : Cond.methodLink RL 17 yX_cylinder ∈ TB := tb_at 289 (by decide +kernel) (by decide +kernel)
-- no code word: ⟨"FeedModulusLaw", "cylinder", "(LFeedModulus;II[J)I"⟩
theorem mlL_21 : Cond.methodLink RL 21 yX_face ∈ TB := tb_at 301 (by decide +kernel) (by decide +kernel)
-- no code word: ⟨"FeedModulusLaw", "face", "(LFeedModulus;III)I"⟩
theorem mlL_27 : Cond.methodLink RL 27 yX_modulus ∈ TB := tb_at 340 (by decide +kernel) (by decide +kernel)
-- no code word: ⟨"FeedModulusLaw", "modulus", "(LFeedModulus;II[J)I"⟩
theorem mlL_33 : Cond.methodLink RL 33 yX_join ∈ TB := tb_at 386 (by decide +kernel) (by decide +kernel)
-- no code word: ⟨"FeedModulusLaw", "join", "(LFeedModulus;IIZ)I"⟩
theorem mlL_37 : Cond.methodLink RL 37 yX_order ∈ TB := tb_at 403 (by decide +kernel) (by decide +kernel)
-- no code word: ⟨"FeedModulusLaw", "order", "(LFeedModulus;I[J)I"⟩
theorem mlL_41 : Cond.methodLink RL 41 yX_riserRow ∈ TB := tb_at 434 (by decide +kernel) (by decide +kernel)
-- no code word: ⟨"FeedModulusLaw", "riserRow", "(LFeedModulus;II[J)I"⟩
theorem mlL_44 : Cond.methodLink RL 44 yX_riser ∈ TB := tb_at 451 (by decide +kernel) (by decide +kernel)
-- no code word: ⟨"FeedModulusLaw", "riser", "(LFeedModulus;I[J)I"⟩
theorem mlL_47 : Cond.methodLink RL 47 yX_cutOff ∈ TB := tb_at 469 (by decide +kernel) (by decide +kernel)
-- no code word: ⟨"FeedModulusLaw", "cutOff", "(LFeedModulus;I)I"⟩
theorem mlL_51 : Cond.methodLink RL 51 yX_feeder ∈ TB := tb_at 481 (by decide +kernel) (by decide +kernel)
-- no code word: ⟨"FeedModulusLaw", "feeder", "(LFeedModulus;I[J)I"⟩
theorem mlL_54 : Cond.methodLink RL 54 yX_unfed ∈ TB := tb_at 497 (by decide +kernel) (by decide +kernel)
-- no code word: ⟨"FeedModulusLaw", "unfed", "(LFeedModulus;I[J)I"⟩
theorem mlL_57 : Cond.methodLink RL 57 yX_flowRow ∈ TB := tb_at 504 (by decide +kernel) (by decide +kernel)
-- no code word: ⟨"FeedModulusLaw", "flowRow", "(LFeedModulus;II[J)I"⟩
theorem mlL_60 : Cond.methodLink RL 60 yX_flow ∈ TB := tb_at 534 (by decide +kernel) (by decide +kernel)
-- no code word: ⟨"FeedModulusLaw", "flow", "(LFeedModulus;I[J)I"⟩
theorem mlL_63 : Cond.methodLink RL 63 yX_gate ∈ TB := tb_at 558 (by decide +kernel) (by decide +kernel)
-- no code word: ⟨"FeedModulusLaw", "gate", "(LFeedModulus;I[J)I"⟩
theorem mlL_66 : Cond.methodLink RL 66 yX_pattern ∈ TB := tb_at 571 (by decide +kernel) (by decide +kernel)
-- no code word: ⟨"FeedModulusLaw", "pattern", "(LFeedModulus;II[J)I"⟩
theorem mlL_69 : Cond.methodLink RL 69 yX_molding ∈ TB := tb_at 579 (by decide +kernel) (by decide +kernel)
-- no code word: ⟨"FeedModulusLaw", "molding", "(LFeedModulus;II)I"⟩
theorem mlL_73 : Cond.methodLink RL 73 yX_pack ∈ TB := tb_at 594 (by decide +kernel) (by decide +kernel)
-- no code word: ⟨"FeedModulusLaw", "pack", "(LFeedModulus;II[J)I"⟩
theorem mlL_76 : Cond.methodLink RL 76 yX_packed ∈ TB := tb_at 619 (by decide +kernel) (by decide +kernel)
-- no code word: ⟨"FeedModulusLaw", "packed", "(LFeedModulus;II[J)I"⟩
theorem mlL_79 : Cond.methodLink RL 79 yX_init ∈ TB := tb_at 43 (by decide +kernel) (by decide +kernel)
theorem mlL_82 : Cond.methodLink RL 82 yD_init ∈ TB := tb_at 639 (by decide +kernel) (by decide +kernel)
theorem mlL_83 : Cond.methodLink RL 83 yL_box ∈ TB := tb_at 165 (by decide +kernel) (by decide +kernel)
theorem mlL_88 : Cond.methodLink RL 88 yD_box ∈ TB := tb_at 714 (by decide +kernel) (by decide +kernel)
theorem mlL_89 : Cond.methodLink RL 89 yD_thrown ∈ TB := tb_at 710 (by decide +kernel) (by decide +kernel)
theorem mlL_93 : Cond.methodLink RL 93 yL_cylinder ∈ TB := tb_at 286 (by decide +kernel) (by decide +kernel)
theorem mlL_96 : Cond.methodLink RL 96 yD_cylinder ∈ TB := tb_at 732 (by decide +kernel) (by decide +kernel)
theorem mlL_97 : Cond.methodLink RL 97 yL_face ∈ TB := tb_at 297 (by decide +kernel) (by decide +kernel)
theorem mlL_100 : Cond.methodLink RL 100 yD_face ∈ TB := tb_at 736 (by decide +kernel) (by decide +kernel)
theorem mlL_101 : Cond.methodLink RL 101 yL_modulus ∈ TB := tb_at 336 (by decide +kernel) (by decide +kernel)
theorem mlL_103 : Cond.methodLink RL 103 yD_modulus ∈ TB := tb_at 744 (by decide +kernel) (by decide +kernel)
theorem mlL_104 : Cond.methodLink RL 104 yL_join ∈ TB := tb_at 383 (by decide +kernel) (by decide +kernel)
theorem mlL_107 : Cond.methodLink RL 107 yD_join ∈ TB := tb_at 761 (by decide +kernel) (by decide +kernel)
theorem mlL_108 : Cond.methodLink RL 108 yL_order ∈ TB := tb_at 400 (by decide +kernel) (by decide +kernel)
theorem mlL_111 : Cond.methodLink RL 111 yD_order ∈ TB := tb_at 765 (by decide +kernel) (by decide +kernel)
theorem mlL_112 : Cond.methodLink RL 112 yL_riserRow ∈ TB := tb_at 431 (by decide +kernel) (by decide +kernel)
theorem mlL_114 : Cond.methodLink RL 114 yD_riserRow ∈ TB := tb_at 777 (by decide +kernel) (by decide +kernel)
theorem mlL_115 : Cond.methodLink RL 115 yL_riser ∈ TB := tb_at 448 (by decide +kernel) (by decide +kernel)
theorem mlL_117 : Cond.methodLink RL 117 yD_riser ∈ TB := tb_at 781 (by decide +kernel) (by decide +kernel)
theorem mlL_118 : Cond.methodLink RL 118 yL_cutOff ∈ TB := tb_at 466 (by decide +kernel) (by decide +kernel)
theorem mlL_121 : Cond.methodLink RL 121 yD_cutOff ∈ TB := tb_at 791 (by decide +kernel) (by decide +kernel)
theorem mlL_122 : Cond.methodLink RL 122 yL_feeder ∈ TB := tb_at 478 (by decide +kernel) (by decide +kernel)
theorem mlL_124 : Cond.methodLink RL 124 yD_feeder ∈ TB := tb_at 795 (by decide +kernel) (by decide +kernel)
theorem mlL_125 : Cond.methodLink RL 125 yL_unfed ∈ TB := tb_at 494 (by decide +kernel) (by decide +kernel)
theorem mlL_127 : Cond.methodLink RL 127 yD_unfed ∈ TB := tb_at 803 (by decide +kernel) (by decide +kernel)
theorem mlL_128 : Cond.methodLink RL 128 yL_flowRow ∈ TB := tb_at 501 (by decide +kernel) (by decide +kernel)
theorem mlL_130 : Cond.methodLink RL 130 yD_flowRow ∈ TB := tb_at 807 (by decide +kernel) (by decide +kernel)
theorem mlL_131 : Cond.methodLink RL 131 yL_flow ∈ TB := tb_at 531 (by decide +kernel) (by decide +kernel)
theorem mlL_133 : Cond.methodLink RL 133 yD_flow ∈ TB := tb_at 812 (by decide +kernel) (by decide +kernel)
theorem mlL_134 : Cond.methodLink RL 134 yL_gate ∈ TB := tb_at 555 (by decide +kernel) (by decide +kernel)
theorem mlL_136 : Cond.methodLink RL 136 yD_gate ∈ TB := tb_at 820 (by decide +kernel) (by decide +kernel)
theorem mlL_137 : Cond.methodLink RL 137 yL_pattern ∈ TB := tb_at 568 (by decide +kernel) (by decide +kernel)
theorem mlL_139 : Cond.methodLink RL 139 yD_pattern ∈ TB := tb_at 824 (by decide +kernel) (by decide +kernel)
theorem mlL_140 : Cond.methodLink RL 140 yL_molding ∈ TB := tb_at 576 (by decide +kernel) (by decide +kernel)
theorem mlL_143 : Cond.methodLink RL 143 yD_molding ∈ TB := tb_at 828 (by decide +kernel) (by decide +kernel)
theorem mlL_144 : Cond.methodLink RL 144 yL_pack ∈ TB := tb_at 591 (by decide +kernel) (by decide +kernel)
theorem mlL_146 : Cond.methodLink RL 146 yD_pack ∈ TB := tb_at 835 (by decide +kernel) (by decide +kernel)
theorem mlL_147 : Cond.methodLink RL 147 yL_packed ∈ TB := tb_at 616 (by decide +kernel) (by decide +kernel)
theorem mlL_149 : Cond.methodLink RL 149 yD_packed ∈ TB := tb_at 851 (by decide +kernel) (by decide +kernel)
-- no code word: ⟨"FeedModulusLaw", "law", "([I)Z"⟩
theorem calJ_compare : cal yJ_compare cJ_compare 4 (some .int) 2 := ⟨tb_at 430 (by decide +kernel) (by decide +kernel), tb_at 40 (by decide +kernel) (by decide +kernel), by decide +kernel, by decide +kernel, by decide +kernel⟩
theorem cvJ_compare : calS yJ_compare := tb_at 429 (by decide +kernel) (by decide +kernel)
end
section
/-! what the loops compute: k rounds are left, i is the next number -/
noncomputable def fstF (P : Nat → Prop) : Nat → Nat → Int32
  | 0, _ => -1
  | k + 1, i => @ite Int32 (P i) (Classical.propDecidable _) (nI i) (fstF P k (i + 1))
theorem fstF_y {P : Nat → Prop} {k i : Nat} (h : P i) : fstF P (k + 1) i = nI i := if_pos h
theorem fstF_n {P : Nat → Prop} {k i : Nat} (h : ¬ P i) : fstF P (k + 1) i = fstF P k (i + 1) := if_neg h
noncomputable def cntF (P : Nat → Prop) : Nat → Nat → Nat
  | 0, _ => 0
  | k + 1, i => @ite Nat (P i) (Classical.propDecidable _) 1 0 + cntF P k (i + 1)
theorem cntF_y {P : Nat → Prop} {k i : Nat} (h : P i) : cntF P (k + 1) i = 1 + cntF P k (i + 1) := by
  show @ite Nat (P i) (Classical.propDecidable _) 1 0 + cntF P k (i + 1) = _
  rw [if_pos h]
theorem cntF_n {P : Nat → Prop} {k i : Nat} (h : ¬ P i) : cntF P (k + 1) i = cntF P k (i + 1) := by
  show @ite Nat (P i) (Classical.propDecidable _) 1 0 + cntF P k (i + 1) = _
  rw [if_neg h, Nat.zero_add]
noncomputable def bstF (B : Nat → Nat → Prop) : Nat → Nat → Nat → Nat
  | 0, _, g => g
  | k + 1, i, g => bstF B k (i + 1) (@ite Nat (B i g) (Classical.propDecidable _) i g)
theorem bstF_y {B : Nat → Nat → Prop} {k i g : Nat} (h : B i g) : bstF B (k + 1) i g = bstF B k (i + 1) i := by
  show bstF B k (i + 1) (@ite Nat (B i g) (Classical.propDecidable _) i g) = _
  rw [if_pos h]
theorem bstF_n {B : Nat → Nat → Prop} {k i g : Nat} (h : ¬ B i g) : bstF B (k + 1) i g = bstF B k (i + 1) g := by
  show bstF B k (i + 1) (@ite Nat (B i g) (Classical.propDecidable _) i g) = _
  rw [if_neg h]
/-- Long.compare -/
def cmpL (x y : Int64) : Int32 := if x < y then -1 else if x = y then 0 else 1
abbrev rCmp (up lo : Nat → Int64) (i j : Nat) : Int32 := cmpL (up i * lo j) (up j * lo i)
def rEar (up lo : Nat → Int64) (i j : Nat) : Prop := rCmp up lo i j < 0 ∨ (rCmp up lo i j = 0 ∧ i < j)
def rBefP (up lo : Nat → Int64) (p o : Nat) : Prop := 0 < lo o ∧ rEar up lo o p
noncomputable def rBef (up lo : Nat → Int64) (n p : Nat) : Nat := cntF (rBefP up lo p) n 0
def rNbP (up lo : Nat → Int64) (jo : Nat → Int32) (p o g : Nat) : Prop := ¬ jo (p * 12 + o) = 0 ∧ 0 < lo o ∧ ¬ rCmp up lo o g ≤ 0
noncomputable def rNb (up lo : Nat → Int64) (jo : Nat → Int32) (n p : Nat) : Nat := bstF (rNbP up lo jo p) n 0 p
noncomputable def rNbI (up lo : Nat → Int64) (jo : Nat → Int32) (n p : Nat) : Int32 := @ite Int32 (rNb up lo jo n p = p) (Classical.propDecidable _) (-1) (nI (rNb up lo jo n p))
def rFitP (ru rl : Nat → Int64) (u v : Int64) (i : Nat) : Prop := 6 * u * rl i ≤ 5 * ru i * v
/-- the flow between two rows -/
noncomputable def btw (fo ff : Nat → Int32) (i j : Nat) (o : Int32) : Int32 := @ite Int32 (0 < fo j - fo i) (Classical.propDecidable _) (ff i + ((ff j - ff i).toInt64 * (o - fo i).toInt64 / (fo j - fo i).toInt64).toInt32) (ff i)
noncomputable def flF (fo ff : Nat → Int32) (o : Int32) : Nat → Nat → Int32 → Int32
  | 0, _, r => r
  | k + 1, i, _ => @ite Int32 (fo i ≤ o) (Classical.propDecidable _) (flF fo ff o k (i + 1) (ff i)) (btw fo ff (i - 1) i o)
theorem flF_y {fo ff : Nat → Int32} {o : Int32} {k i : Nat} {r : Int32} (h : fo i ≤ o) : flF fo ff o (k + 1) i r = flF fo ff o k (i + 1) (ff i) := if_pos h
theorem flF_n {fo ff : Nat → Int32} {o : Int32} {k i : Nat} {r : Int32} (h : ¬ fo i ≤ o) : flF fo ff o (k + 1) i r = btw fo ff (i - 1) i o := if_neg h
noncomputable def flAt (fo ff : Nat → Int32) (nf : Nat) (o : Int32) : Int32 := @ite Int32 (fo 0 < o) (Classical.propDecidable _) (flF fo ff o (nf - 1) 1 (ff 0)) (ff 0)
noncomputable def gaF (fl : Int32 → Int32) (aim : Int32) : Nat → Nat → Nat → Nat
  | 0, lo, _ => lo
  | k + 1, lo, hi => @ite Nat (hi ≤ lo) (Classical.propDecidable _) lo (@ite Nat (fl (nI ((lo + hi) / 2)) < aim) (Classical.propDecidable _) (gaF fl aim k ((lo + hi) / 2 + 1) hi) (gaF fl aim k lo ((lo + hi) / 2)))
theorem gaF_e {fl : Int32 → Int32} {aim : Int32} {k lo hi : Nat} (h : hi ≤ lo) : gaF fl aim k lo hi = lo := by
  cases k with
  | zero => rfl
  | succ k => exact if_pos h
theorem gaF_l {fl : Int32 → Int32} {aim : Int32} {k lo hi : Nat} (h : lo < hi) (h2 : fl (nI ((lo + hi) / 2)) < aim) : gaF fl aim (k + 1) lo hi = gaF fl aim k ((lo + hi) / 2 + 1) hi := by
  show @ite Nat (hi ≤ lo) (Classical.propDecidable _) lo _ = _
  rw [if_neg (by omega), if_pos h2]
theorem gaF_h {fl : Int32 → Int32} {aim : Int32} {k lo hi : Nat} (h : lo < hi) (h2 : ¬ fl (nI ((lo + hi) / 2)) < aim) : gaF fl aim (k + 1) lo hi = gaF fl aim k lo ((lo + hi) / 2) := by
  show @ite Nat (hi ≤ lo) (Classical.propDecidable _) lo _ = _
  rw [if_neg (by omega), if_neg h2]
def shP (bw : Int32) (sd su : Nat → Int32) (w d : Int32) (i : Nat) : Prop := ¬ sd i < d ∧ ¬ bw - su i < w
noncomputable def shF (bw bd bu : Int32) (ns : Nat) (sd su : Nat → Int32) (w d : Int32) : Nat → Nat → Int32
  | 0, _ => @ite Int32 (¬ bw < w ∧ ¬ bd - bu < d) (Classical.propDecidable _) (nI ns) (-1)
  | k + 1, i => @ite Int32 (shP bw sd su w d i) (Classical.propDecidable _) (nI i) (shF bw bd bu ns sd su w d k (i + 1))
theorem shF_y {bw bd bu : Int32} {ns : Nat} {sd su : Nat → Int32} {w d : Int32} {k i : Nat} (h : shP bw sd su w d i) : shF bw bd bu ns sd su w d (k + 1) i = nI i := if_pos h
theorem shF_n {bw bd bu : Int32} {ns : Nat} {sd su : Nat → Int32} {w d : Int32} {k i : Nat} (h : ¬ shP bw sd su w d i) : shF bw bd bu ns sd su w d (k + 1) i = shF bw bd bu ns sd su w d k (i + 1) := if_neg h
theorem shF_0 {bw bd bu : Int32} {ns : Nat} {sd su : Nat → Int32} {w d : Int32} {i : Nat} (h : ¬ bw < w ∧ ¬ bd - bu < d) : shF bw bd bu ns sd su w d 0 i = nI ns := if_pos h
theorem shF_1 {bw bd bu : Int32} {ns : Nat} {sd su : Nat → Int32} {w d : Int32} {i : Nat} (h : ¬ (¬ bw < w ∧ ¬ bd - bu < d)) : shF bw bd bu ns sd su w d 0 i = -1 := if_neg h
/-- Euclid on longs, k steps at most -/
noncomputable def gcF : Nat → Int64 → Int64 → Int64
  | 0, x, _ => x
  | k + 1, x, y => @ite Int64 (y = 0) (Classical.propDecidable _) x (gcF k y (x - x / y * y))
theorem gcF_e {k : Nat} {x y : Int64} (h : y = 0) : gcF k x y = x := by
  cases k with
  | zero => rfl
  | succ k => exact if_pos h
theorem gcF_n {k : Nat} {x y : Int64} (h : ¬ y = 0) : gcF (k + 1) x y = gcF k y (x - x / y * y) := if_neg h
theorem i64_ne {x : Int32} (h : 0 < x) : ¬ x.toInt64 = 0 := by
  intro q
  have h1 : x.toInt64.toInt = (0 : Int64).toInt := by rw [q]
  rw [Int32.toInt_toInt64] at h1
  have h2 := Int32.lt_iff_toInt_lt.mp h
  have h3 : (0 : Int32).toInt = 0 := by decide
  have h4 : (0 : Int64).toInt = 0 := by decide
  omega
def sumL (g : Nat → Int64) : Nat → Int64
  | 0 => 0
  | m + 1 => sumL g m + g m
/-- m faces of part n are added, of the weights q -/
def adB (n m : Nat) (q : Nat → Int32) (lo : Nat → Int64) (we ti : Nat → Int32) (lo1 : Nat → Int64) (we1 ti1 : Nat → Int32) : Prop :=
  (∀ i, i ≠ n → lo1 i = lo i) ∧ (∀ z, z < n * 6 ∨ n * 6 + m ≤ z → we1 z = we z ∧ ti1 z = ti z) ∧ (∀ f, f < m → we1 (n * 6 + f) = q f ∧ ti1 (n * 6 + f) = 1) ∧ lo1 n = lo n + sumL (fun f => (q f).toInt64 * (1 - ti (n * 6 + f)).toInt64) m
theorem adB_0 (n : Nat) (q : Nat → Int32) (lo : Nat → Int64) (we ti : Nat → Int32) : adB n 0 q lo we ti lo we ti :=
  ⟨fun _ _ => rfl, fun _ _ => ⟨rfl, rfl⟩, fun f h => absurd h (Nat.not_lt_zero f), by simp [sumL]⟩
theorem adB_s {n m : Nat} {q : Nat → Int32} {lo lo1 lo2 : Nat → Int64} {we ti we1 ti1 we2 ti2 : Nat → Int32} (h : adB n m q lo we ti lo1 we1 ti1) (e5 : we2 = upd we1 (n * 6 + m) (q m)) (e6 : ti2 = upd ti1 (n * 6 + m) 1) (e3 : lo2 = vp_updL lo1 n (lo1 n + (q m).toInt64 * (1 - ti1 (n * 6 + m)).toInt64)) : adB n (m + 1) q lo we ti lo2 we2 ti2 := by
  obtain ⟨h1, h2, h3, h4⟩ := h
  subst e5 e6 e3
  refine ⟨fun i hi => ?_, fun z hz => ?_, fun f hf => ?_, ?_⟩
  · rw [pk_uLn hi]; exact h1 i hi
  · rw [pk_un (by omega), pk_un (by omega)]; exact h2 z (by omega)
  · by_cases e : f = m
    · subst e; exact ⟨pk_us, pk_us⟩
    · rw [pk_un (by omega), pk_un (by omega)]; exact h3 f (by omega)
  · rw [pk_uLs, h4, (h2 (n * 6 + m) (by omega)).2]
    show _ = lo n + (sumL _ m + _)
    rw [Int64.add_assoc]
def qB (x y z : Int32) : Nat → Int32
  | 0 => y * z
  | 1 => y * z
  | 2 => x * z
  | 3 => x * z
  | 4 => x * y
  | _ => x * y
def qC (d h : Int32) : Nat → Int32
  | 0 => 4 * h
  | _ => d
section LNDIV
variable {p : Program} {l : Launch} {e : Env} {R : Room} {s : State} {m : MethodId} {args : Array Value} {below : List Frame} {meth : Method} {c : Code} {H : Heap} {locs : List Loc} {cells slots : Nat} {Q : State → Prop}
variable {cc : ByteArray} {pc : Nat} {ls : Array Slot} {rest : List Value}
theorem ln_idiv (hx : p.tables.exec = Jvm.exec) (hb : c.code = cc) {x y : Nat} (hdg : decode cc pc = .ok (.idiv, 1)) (h1 : x < 2 ^ 31) (h2 : 0 < y) (h3 : y < 2 ^ 31) (kk : W p l e R s m args below meth c H locs cells slots Q (F0 m (pc + 1) ls (.int (nI (x / y)) :: rest))) : W p l e R s m args below meth c H locs cells slots Q (F0 m pc ls (.int (nI y) :: .int (nI x) :: rest)) :=
  lv_idiv hx hb hdg (nI_ne0 h2 h3) (by rw [pk_div h1 h2 h3]; exact kk)
end LNDIV
/-! the reference's own words -/
noncomputable def thr (P1 P2 P3 : Prop) : Int32 := @ite Int32 P1 (Classical.propDecidable _) 1 (@ite Int32 P2 (Classical.propDecidable _) 2 (@ite Int32 P3 (Classical.propDecidable _) 3 0))
theorem thr_1 {P1 P2 P3 : Prop} (h : P1) : thr P1 P2 P3 = 1 := if_pos h
theorem thr_2 {P1 P2 P3 : Prop} (h : ¬ P1) (h2 : P2) : thr P1 P2 P3 = 2 := by unfold thr; rw [if_neg h, if_pos h2]
theorem thr_3 {P1 P2 P3 : Prop} (h : ¬ P1) (h2 : ¬ P2) (h3 : P3) : thr P1 P2 P3 = 3 := by unfold thr; rw [if_neg h, if_neg h2, if_pos h3]
theorem thr_0 {P1 P2 P3 : Prop} (h : ¬ P1) (h2 : ¬ P2) (h3 : ¬ P3) : thr P1 P2 P3 = 0 := by unfold thr; rw [if_neg h, if_neg h2, if_neg h3]
def rngI (v lo hi : Int32) : Prop := ¬ v < lo ∧ ¬ hi < v
def szR (v : Int32) : Prop := rngI v 1 1000
def wdR (v : Int32) : Prop := rngI v 1 2000
noncomputable def mUp (rd ma mb mc : Nat → Int32) (j : Nat) : Int64 := @ite Int64 (rd j = 0) (Classical.propDecidable _) ((ma j).toInt64 * (mb j).toInt64 * (mc j).toInt64) ((ma j).toInt64 * (mb j).toInt64)
def mFc (co : Nat → Int32) (j f : Nat) : Int32 := co (6 * j + f) + co (6 * j + f + 1)
noncomputable def mLo (rd ma mb mc co : Nat → Int32) (j : Nat) : Int64 := @ite Int64 (rd j = 0) (Classical.propDecidable _) ((mFc co j 0).toInt64 * (mb j).toInt64 * (mc j).toInt64 + (mFc co j 2).toInt64 * (ma j).toInt64 * (mc j).toInt64 + (mFc co j 4).toInt64 * (ma j).toInt64 * (mb j).toInt64) (4 * (co (6 * j)).toInt64 * (mb j).toInt64 + (mFc co j 1).toInt64 * (ma j).toInt64)
noncomputable def mCmp (rd ma mb mc co : Nat → Int32) (i j : Nat) : Int64 := mUp rd ma mb mc i * mLo rd ma mb mc co j - mUp rd ma mb mc j * mLo rd ma mb mc co i
def opR (v : Int32) : Prop := rngI v 0 10000
def flR (v : Int32) : Prop := rngI v 0 1000000
end
section
abbrev sX (k : ClassId × ClassId × ClassId) (a : Nat → Nat) (w : Nat → va_E)  : Prop := w 0 = .inr (0, [.ref (a 1), .ref (a 9), .ref (a 12), .ref (a 15)])
abbrev sP (k : ClassId × ClassId × ClassId) (a : Nat → Nat) (w : Nat → va_E) (n : Nat) (up : Nat → Int64) (lo : Nat → Int64) (fa : Nat → Int32) (we : Nat → Int32) (ti : Nat → Int32) (ri : Nat → Int32) (jo : Nat → Int32) : Prop := w 1 = .inr (1, [.ref (a 2), .ref (a 3), .ref (a 4), .ref (a 5), .ref (a 6), .ref (a 7), .ref (a 8), .int (nI n)]) ∧ w 2 = .inl (k.2.1, 12, .inr (.inl up)) ∧ w 3 = .inl (k.2.1, 12, .inr (.inl lo)) ∧ w 4 = .inl (k.1, 12, .inl fa) ∧ w 5 = .inl (k.1, 72, .inl we) ∧ w 6 = .inl (k.1, 72, .inl ti) ∧ w 7 = .inl (k.1, 12, .inl ri) ∧ w 8 = .inl (k.2.2, 144, .inl jo)
abbrev sR (k : ClassId × ClassId × ClassId) (a : Nat → Nat) (w : Nat → va_E) (nr : Nat) (ru : Nat → Int64) (rl : Nat → Int64) : Prop := w 9 = .inr (2, [.ref (a 10), .ref (a 11), .int (nI nr)]) ∧ w 10 = .inl (k.2.1, 8, .inr (.inl ru)) ∧ w 11 = .inl (k.2.1, 8, .inr (.inl rl))
abbrev sF (k : ClassId × ClassId × ClassId) (a : Nat → Nat) (w : Nat → va_E) (nf : Nat) (fo : Nat → Int32) (ff : Nat → Int32) : Prop := w 12 = .inr (3, [.ref (a 13), .ref (a 14), .int (nI nf)]) ∧ w 13 = .inl (k.1, 8, .inl fo) ∧ w 14 = .inl (k.1, 8, .inl ff)
abbrev sM (k : ClassId × ClassId × ClassId) (a : Nat → Nat) (w : Nat → va_E) (bw : Int32) (bd : Int32) (bu : Int32) (nt : Nat) (ns : Nat) (tw : Nat → Int32) (td : Nat → Int32) (sb : Nat → Int32) (sd : Nat → Int32) (su : Nat → Int32) : Prop := w 15 = .inr (4, [.ref (a 16), .ref (a 17), .ref (a 18), .ref (a 19), .ref (a 20), .int bw, .int bd, .int bu, .int (nI nt), .int (nI ns)]) ∧ w 16 = .inl (k.1, 40, .inl tw) ∧ w 17 = .inl (k.1, 40, .inl td) ∧ w 18 = .inl (k.1, 40, .inl sb) ∧ w 19 = .inl (k.1, 40, .inl sd) ∧ w 20 = .inl (k.1, 40, .inl su)
abbrev sO (k : ClassId × ClassId × ClassId) (a : Nat → Nat) (w : Nat → va_E) (oo : Nat → Int64) : Prop := w 21 = .inl (k.2.1, 1, .inr (.inl oo))
abbrev sD (k : ClassId × ClassId × ClassId) (a : Nat → Nat) (w : Nat → va_E) (th : Int32) (n : Nat) (nr : Nat) (nf : Nat) (bw : Int32) (bd : Int32) (nt : Nat) : Prop := w 22 = .inr (5, [.int th, .int (nI n), .ref (a 23), .ref (a 24), .ref (a 25), .ref (a 26), .ref (a 27), .ref (a 28), .ref (a 29), .int (nI nr), .ref (a 30), .ref (a 31), .int (nI nf), .ref (a 32), .ref (a 33), .int bw, .int bd, .int (nI nt), .ref (a 34), .ref (a 35), .ref (a 36), .ref (a 37)])
abbrev sDP (k : ClassId × ClassId × ClassId) (a : Nat → Nat) (w : Nat → va_E) (rd : Nat → Int32) (ma : Nat → Int32) (mb : Nat → Int32) (mc : Nat → Int32) (co : Nat → Int32) (jn : Nat → Int32) (ro : Nat → Int32) : Prop := w 23 = .inl (k.2.2, 12, .inl rd) ∧ w 24 = .inl (k.1, 12, .inl ma) ∧ w 25 = .inl (k.1, 12, .inl mb) ∧ w 26 = .inl (k.1, 12, .inl mc) ∧ w 27 = .inl (k.1, 72, .inl co) ∧ w 28 = .inl (k.1, 12, .inl jn) ∧ w 29 = .inl (k.1, 12, .inl ro)
abbrev sDR (k : ClassId × ClassId × ClassId) (a : Nat → Nat) (w : Nat → va_E) (md : Nat → Int32) (mh : Nat → Int32) : Prop := w 30 = .inl (k.1, 8, .inl md) ∧ w 31 = .inl (k.1, 8, .inl mh)
abbrev sDF (k : ClassId × ClassId × ClassId) (a : Nat → Nat) (w : Nat → va_E) (mo : Nat → Int32) (mf : Nat → Int32) : Prop := w 32 = .inl (k.1, 8, .inl mo) ∧ w 33 = .inl (k.1, 8, .inl mf)
abbrev sDM (k : ClassId × ClassId × ClassId) (a : Nat → Nat) (w : Nat → va_E) (xa : Nat → Int32) (xf : Nat → Int32) (xw : Nat → Int32) (xd : Nat → Int32) : Prop := w 34 = .inl (k.1, 40, .inl xa) ∧ w 35 = .inl (k.1, 40, .inl xf) ∧ w 36 = .inl (k.1, 40, .inl xw) ∧ w 37 = .inl (k.1, 40, .inl xd)
end
section
abbrev rmP_count : Room := { frames := 0, cells := 0, slots := 0, locals := 0 }
set_option maxRecDepth 100000 in
set_option maxHeartbeats 4000000 in
theorem kP_count {l : Launch} {D : va_G} {k : ClassId × ClassId × ClassId} {a : Nat → Nat} {B0 : Nat} {w : Nat → va_E} (hA : gA B0 a) {n : Nat} {up : Nat → Int64} {lo : Nat → Int64} {fa : Nat → Int32} {we : Nat → Int32} {ti : Nat → Int32} {ri : Nat → Int32} {jo : Nat → Int32} (hsP : sP k a w n up lo fa we ti ri jo)  : Met l yP_count (tbw yP_count cP_count 1 (some .int)) rmP_count (gPc D k a B0 w [.ref (a 1)]) (va_Qi (roP (nI n) w) (gB D k a) (gF B0)) 0 0 (gF B0) := by
  obtain ⟨hsP1, hsP2, hsP3, hsP4, hsP5, hsP6, hsP7, hsP8⟩ := hsP
  refine g_ofW (by decide) rfl (fun p e s m args below meth c Q hQ hx hb hr hlk hml hown hts hB hG hK hS ls hl => ?_)
  have hl : lv_has ls 1 [(0, .ref (a 1))] := hl
  have hown : s.vm.findClass RP = some m.cls := hown
  refine lv_aload_n hx hb dP_count_0 rfl (lv_at hl 0 rfl) ?_
  refine g_get hx hb hts inP hown hK hG 1 (by decide) hsP1 rfl 7 (by decide) lkP_35 rfl dP_count_1 ?_
  exact g_iret hQ hx hb hr hlk hG hK hS (by decide) (by decide) ⟨by first | rfl | omega | (simp_all; done) | grind, rfl⟩ dP_count_4

abbrev rmP_isFull : Room := { frames := 0, cells := 0, slots := 0, locals := 0 }
set_option maxRecDepth 100000 in
set_option maxHeartbeats 4000000 in
theorem kP_isFull {l : Launch} {D : va_G} {k : ClassId × ClassId × ClassId} {a : Nat → Nat} {B0 : Nat} {w : Nat → va_E} (hA : gA B0 a) {n : Nat} {up : Nat → Int64} {lo : Nat → Int64} {fa : Nat → Int32} {we : Nat → Int32} {ti : Nat → Int32} {ri : Nat → Int32} {jo : Nat → Int32} (hsP : sP k a w n up lo fa we ti ri jo) (hn : n ≤ 12) : Met l yP_isFull (tbw yP_isFull cP_isFull 1 (some .boolean)) rmP_isFull (gPc D k a B0 w [.ref (a 1)]) (va_Qi (roP (b2i (12 ≤ n)) w) (gB D k a) (gF B0)) 0 0 (gF B0) := by
  obtain ⟨hsP1, hsP2, hsP3, hsP4, hsP5, hsP6, hsP7, hsP8⟩ := hsP
  refine g_ofW (by decide) rfl (fun p e s m args below meth c Q hQ hx hb hr hlk hml hown hts hB hG hK hS ls hl => ?_)
  have hl : lv_has ls 1 [(0, .ref (a 1))] := hl
  have hown : s.vm.findClass RP = some m.cls := hown
  refine lv_aload_n hx hb dP_isFull_0 rfl (lv_at hl 0 rfl) ?_
  refine g_get hx hb hts inP hown hK hG 1 (by decide) hsP1 rfl 7 (by decide) lkP_35 rfl dP_isFull_1 ?_
  refine lv_bipush (v := 12) hx hb dP_isFull_4 (by decide) ?_
  refine ln_icmp_lt (x := n) (y := 12) (tgt := 13) hx hb dP_isFull_6 (by decide) (by omega) (by decide) (fun c1 => ?_) (fun c1 => ?_)
  · refine lv_iconst (v := 0) hx hb dP_isFull_13 (by decide) ?_
    exact g_zret hQ hx hb hr hlk hG hK hS (by decide) (by decide) (by decide) ⟨(b2i_f (by first | rfl | omega | (simp_all; done) | grind)).symm, rfl⟩ dP_isFull_14
  · refine lv_iconst (v := 1) hx hb dP_isFull_9 (by decide) ?_
    refine lv_goto (tgt := 14) hx hb dP_isFull_10 (by decide) ?_
    exact g_zret hQ hx hb hr hlk hG hK hS (by decide) (by decide) (by decide) ⟨(b2i_t (by first | rfl | omega | (simp_all; done) | grind)).symm, rfl⟩ dP_isFull_14

abbrev rmP_has : Room := { frames := 0, cells := 0, slots := 0, locals := 0 }
set_option maxRecDepth 100000 in
set_option maxHeartbeats 4000000 in
theorem kP_has {l : Launch} {D : va_G} {k : ClassId × ClassId × ClassId} {a : Nat → Nat} {B0 : Nat} {w : Nat → va_E} (hA : gA B0 a) {n : Nat} {up : Nat → Int64} {lo : Nat → Int64} {fa : Nat → Int32} {we : Nat → Int32} {ti : Nat → Int32} {ri : Nat → Int32} {jo : Nat → Int32} (hsP : sP k a w n up lo fa we ti ri jo) (q : Int32) : Met l yP_has (tbw yP_has cP_has 2 (some .boolean)) rmP_has (gPc D k a B0 w [.ref (a 1), .int q]) (va_Qi (roP (b2i (¬ q < 0 ∧ ¬ nI n ≤ q)) w) (gB D k a) (gF B0)) 0 0 (gF B0) := by
  obtain ⟨hsP1, hsP2, hsP3, hsP4, hsP5, hsP6, hsP7, hsP8⟩ := hsP
  refine g_ofW (by decide) rfl (fun p e s m args below meth c Q hQ hx hb hr hlk hml hown hts hB hG hK hS ls hl => ?_)
  have hl : lv_has ls 2 [(0, .ref (a 1)), (1, .int q)] := hl
  have hown : s.vm.findClass RP = some m.cls := hown
  refine lv_iload_n hx hb dP_has_0 rfl (lv_at hl 1 rfl) ?_
  refine lv_if_lt (tgt := 16) hx hb dP_has_1 (by decide) (fun c1 => ?_) (fun c1 => ?_)
  · refine lv_iconst (v := 0) hx hb dP_has_16 (by decide) ?_
    exact g_zret hQ hx hb hr hlk hG hK hS (by decide) (by decide) (by decide) ⟨(b2i_f (by simp_all)).symm, rfl⟩ dP_has_17
  · refine lv_iload_n hx hb dP_has_4 rfl (lv_at hl 1 rfl) ?_
    refine lv_aload_n hx hb dP_has_5 rfl (lv_at hl 0 rfl) ?_
    refine g_get hx hb hts inP hown hK hG 1 (by decide) hsP1 rfl 7 (by decide) lkP_35 rfl dP_has_6 ?_
    refine lv_icmp_ge (tgt := 16) hx hb dP_has_9 (by decide) (fun c2 => ?_) (fun c2 => ?_)
    · refine lv_iconst (v := 0) hx hb dP_has_16 (by decide) ?_
      exact g_zret hQ hx hb hr hlk hG hK hS (by decide) (by decide) (by decide) ⟨(b2i_f (by simp_all)).symm, rfl⟩ dP_has_17
    · refine lv_iconst (v := 1) hx hb dP_has_12 (by decide) ?_
      refine lv_goto (tgt := 17) hx hb dP_has_13 (by decide) ?_
      exact g_zret hQ hx hb hr hlk hG hK hS (by decide) (by decide) (by decide) ⟨(b2i_t (by simp_all)).symm, rfl⟩ dP_has_17

abbrev rmP_hasFace : Room := { frames := 0, cells := 0, slots := 0, locals := 0 }
set_option maxRecDepth 100000 in
set_option maxHeartbeats 4000000 in
theorem kP_hasFace {l : Launch} {D : va_G} {k : ClassId × ClassId × ClassId} {a : Nat → Nat} {B0 : Nat} {w : Nat → va_E} (hA : gA B0 a) {n : Nat} {up : Nat → Int64} {lo : Nat → Int64} {fa : Nat → Int32} {we : Nat → Int32} {ti : Nat → Int32} {ri : Nat → Int32} {jo : Nat → Int32} (hsP : sP k a w n up lo fa we ti ri jo) (j : Nat) (f : Int32) (hj : j < 12) : Met l yP_hasFace (tbw yP_hasFace cP_hasFace 3 (some .boolean)) rmP_hasFace (gPc D k a B0 w [.ref (a 1), .int (nI j), .int f]) (va_Qi (roP (b2i (¬ f < 0 ∧ ¬ fa j ≤ f)) w) (gB D k a) (gF B0)) 0 0 (gF B0) := by
  obtain ⟨hsP1, hsP2, hsP3, hsP4, hsP5, hsP6, hsP7, hsP8⟩ := hsP
  refine g_ofW (by decide) rfl (fun p e s m args below meth c Q hQ hx hb hr hlk hml hown hts hB hG hK hS ls hl => ?_)
  have hl : lv_has ls 3 [(0, .ref (a 1)), (1, .int (nI j)), (2, .int f)] := hl
  have hown : s.vm.findClass RP = some m.cls := hown
  refine lv_iload_n hx hb dP_hasFace_0 rfl (lv_at hl 2 rfl) ?_
  refine lv_if_lt (tgt := 18) hx hb dP_hasFace_1 (by decide) (fun c1 => ?_) (fun c1 => ?_)
  · refine lv_iconst (v := 0) hx hb dP_hasFace_18 (by decide) ?_
    exact g_zret hQ hx hb hr hlk hG hK hS (by decide) (by decide) (by decide) ⟨(b2i_f (by simp_all)).symm, rfl⟩ dP_hasFace_19
  · refine lv_iload_n hx hb dP_hasFace_4 rfl (lv_at hl 2 rfl) ?_
    refine lv_aload_n hx hb dP_hasFace_5 rfl (lv_at hl 0 rfl) ?_
    refine g_get hx hb hts inP hown hK hG 1 (by decide) hsP1 rfl 2 (by decide) lkP_18 rfl dP_hasFace_6 ?_
    refine lv_iload_n hx hb dP_hasFace_9 rfl (lv_at hl 1 rfl) ?_
    refine g_iald hx hb hK hG 4 (by decide) hsP4 (j := j) (by omega) (by decide) dP_hasFace_10 ?_
    refine lv_icmp_ge (tgt := 18) hx hb dP_hasFace_11 (by decide) (fun c2 => ?_) (fun c2 => ?_)
    · refine lv_iconst (v := 0) hx hb dP_hasFace_18 (by decide) ?_
      exact g_zret hQ hx hb hr hlk hG hK hS (by decide) (by decide) (by decide) ⟨(b2i_f (by simp_all)).symm, rfl⟩ dP_hasFace_19
    · refine lv_iconst (v := 1) hx hb dP_hasFace_14 (by decide) ?_
      refine lv_goto (tgt := 19) hx hb dP_hasFace_15 (by decide) ?_
      exact g_zret hQ hx hb hr hlk hG hK hS (by decide) (by decide) (by decide) ⟨(b2i_t (by simp_all)).symm, rfl⟩ dP_hasFace_19

abbrev rmP_open : Room := { frames := 0, cells := 0, slots := 0, locals := 0 }
set_option maxRecDepth 100000 in
set_option maxHeartbeats 4000000 in
theorem kP_open {l : Launch} {D : va_G} {k : ClassId × ClassId × ClassId} {a : Nat → Nat} {B0 : Nat} {w : Nat → va_E} (hA : gA B0 a) {n : Nat} {up : Nat → Int64} {lo : Nat → Int64} {fa : Nat → Int32} {we : Nat → Int32} {ti : Nat → Int32} {ri : Nat → Int32} {jo : Nat → Int32} (hsP : sP k a w n up lo fa we ti ri jo) (q : Int32) (u : Int64) (hn : n < 12) : Met l yP_open (tbw yP_open cP_open 5 (some .int)) rmP_open (gPc D k a B0 w [.ref (a 1), .int q, .long u]) (va_Qi (fun r w1 => r = (nI n) ∧ (sP k a w1 (n + 1) (vp_updL up n u) lo (upd fa n q) we ti (upd ri n (-1)) jo) ∧ ∀ z, z < 1 ∨ 8 < z → w1 z = w z) (gB D k a) (gF B0)) 0 0 (gF B0) := by
  obtain ⟨hsP1, hsP2, hsP3, hsP4, hsP5, hsP6, hsP7, hsP8⟩ := hsP
  refine g_ofW (by decide) rfl (fun p e s m args below meth c Q hQ hx hb hr hlk hml hown hts hB hG hK hS ls hl => ?_)
  have hl : lv_has ls 5 [(0, .ref (a 1)), (1, .int q), (2, .long u)] := hl
  have hown : s.vm.findClass RP = some m.cls := hown
  have hfr0 : ∀ z, z < 1 ∨ 8 < z → w z = w z := fun _ _ => rfl
  refine lv_aload_n hx hb dP_open_0 rfl (lv_at hl 0 rfl) ?_
  refine g_get hx hb hts inP hown hK hG 1 (by decide) hsP1 rfl 7 (by decide) lkP_35 rfl dP_open_1 ?_
  refine lv_istore (lv' := [(4, .int (nI n)), (0, .ref (a 1)), (1, .int q), (2, .long u)]) hx hb dP_open_4 hl (by decide) rfl (fun ls hl => ?_)
  refine lv_aload_n hx hb dP_open_6 rfl (lv_at hl 1 rfl) ?_
  refine lv_dup hx hb dP_open_7 rfl ?_
  refine g_get hx hb hts inP hown hK hG 1 (by decide) hsP1 rfl 7 (by decide) lkP_35 rfl dP_open_8 ?_
  refine lv_iconst (v := 1) hx hb dP_open_11 (by decide) ?_
  refine ln_iadd (x := n) (y := 1) hx hb dP_open_12 ?_
  refine g_put hx hb hts inP tyP tokP nokP hown hK hA hG hS 1 (by decide) hsP1 rfl 7 (by decide) lkP_35 rfl (ty := .int) (by decide +kernel) rfl rfl (Nat.le_of_ble_eq_true rfl) dP_open_13 (fun H locs hG hS => ?_)
  obtain ⟨w1, hw2⟩ : ∃ zz9, zz9 = va_up w 1 (.inr (1, [.ref (a 2), .ref (a 3), .ref (a 4), .ref (a 5), .ref (a 6), .ref (a 7), .ref (a 8), .int (nI (n + 1))])) := ⟨_, rfl⟩
  replace hG : gW D a w1 H := by rw [hw2]; exact hG
  have h3 : w1 1 = .inr (1, [.ref (a 2), .ref (a 3), .ref (a 4), .ref (a 5), .ref (a 6), .ref (a 7), .ref (a 8), .int (nI (n + 1))]) := by rw [hw2]; rfl
  have h4 : w1 2 = .inl (k.2.1, 12, .inr (.inl up)) := by rw [hw2]; exact hsP2
  have h5 : w1 3 = .inl (k.2.1, 12, .inr (.inl lo)) := by rw [hw2]; exact hsP3
  have h6 : w1 4 = .inl (k.1, 12, .inl fa) := by rw [hw2]; exact hsP4
  have h7 : w1 5 = .inl (k.1, 72, .inl we) := by rw [hw2]; exact hsP5
  have h8 : w1 6 = .inl (k.1, 72, .inl ti) := by rw [hw2]; exact hsP6
  have h9 : w1 7 = .inl (k.1, 12, .inl ri) := by rw [hw2]; exact hsP7
  have h10 : w1 8 = .inl (k.2.2, 144, .inl jo) := by rw [hw2]; exact hsP8
  have hfr11 : ∀ z, z < 1 ∨ 8 < z → w1 z = w z := fun z hz => by rw [hw2]; exact (va_up_ne _ _ (by omega)).trans (hfr0 z hz)
  refine lv_aload_n hx hb dP_open_16 rfl (lv_at hl 1 rfl) ?_
  refine g_get hx hb hts inP hown hK hG 1 (by decide) h3 rfl 2 (by decide) lkP_18 rfl dP_open_17 ?_
  refine lv_iload hx hb dP_open_20 (lv_at hl 0 rfl) ?_
  refine lv_iload_n hx hb dP_open_22 rfl (lv_at hl 2 rfl) ?_
  refine g_iast hx hb hK hA hG hS 4 (by decide) h6 (j := n) (by omega) (by decide) dP_open_23 (fun H locs hG hS => ?_)
  obtain ⟨w12, hw13⟩ : ∃ zz9, zz9 = va_up w1 4 (.inl (k.1, 12, .inl (upd fa n q))) := ⟨_, rfl⟩
  replace hG : gW D a w12 H := by rw [hw13]; exact hG
  have h14 : w12 1 = .inr (1, [.ref (a 2), .ref (a 3), .ref (a 4), .ref (a 5), .ref (a 6), .ref (a 7), .ref (a 8), .int (nI (n + 1))]) := by rw [hw13]; exact h3
  have h15 : w12 2 = .inl (k.2.1, 12, .inr (.inl up)) := by rw [hw13]; exact h4
  have h16 : w12 3 = .inl (k.2.1, 12, .inr (.inl lo)) := by rw [hw13]; exact h5
  have h17 : w12 4 = .inl (k.1, 12, .inl (upd fa n q)) := by rw [hw13]; rfl
  have h18 : w12 5 = .inl (k.1, 72, .inl we) := by rw [hw13]; exact h7
  have h19 : w12 6 = .inl (k.1, 72, .inl ti) := by rw [hw13]; exact h8
  have h20 : w12 7 = .inl (k.1, 12, .inl ri) := by rw [hw13]; exact h9
  have h21 : w12 8 = .inl (k.2.2, 144, .inl jo) := by rw [hw13]; exact h10
  have hfr22 : ∀ z, z < 1 ∨ 8 < z → w12 z = w z := fun z hz => by rw [hw13]; exact (va_up_ne _ _ (by omega)).trans (hfr11 z hz)
  refine lv_aload_n hx hb dP_open_24 rfl (lv_at hl 1 rfl) ?_
  refine g_get hx hb hts inP hown hK hG 1 (by decide) h14 rfl 0 (by decide) lkP_9 rfl dP_open_25 ?_
  refine lv_iload hx hb dP_open_28 (lv_at hl 0 rfl) ?_
  refine lv_lload_n hx hb dP_open_30 rfl (lv_at hl 3 rfl) ?_
  refine g_last hx hb hK hA hG hS 2 (by decide) h15 (j := n) (by omega) (by decide) dP_open_31 (fun H locs hG hS => ?_)
  obtain ⟨w23, hw24⟩ : ∃ zz9, zz9 = va_up w12 2 (.inl (k.2.1, 12, .inr (.inl (vp_updL up n u)))) := ⟨_, rfl⟩
  replace hG : gW D a w23 H := by rw [hw24]; exact hG
  have h25 : w23 1 = .inr (1, [.ref (a 2), .ref (a 3), .ref (a 4), .ref (a 5), .ref (a 6), .ref (a 7), .ref (a 8), .int (nI (n + 1))]) := by rw [hw24]; exact h14
  have h26 : w23 2 = .inl (k.2.1, 12, .inr (.inl (vp_updL up n u))) := by rw [hw24]; rfl
  have h27 : w23 3 = .inl (k.2.1, 12, .inr (.inl lo)) := by rw [hw24]; exact h16
  have h28 : w23 4 = .inl (k.1, 12, .inl (upd fa n q)) := by rw [hw24]; exact h17
  have h29 : w23 5 = .inl (k.1, 72, .inl we) := by rw [hw24]; exact h18
  have h30 : w23 6 = .inl (k.1, 72, .inl ti) := by rw [hw24]; exact h19
  have h31 : w23 7 = .inl (k.1, 12, .inl ri) := by rw [hw24]; exact h20
  have h32 : w23 8 = .inl (k.2.2, 144, .inl jo) := by rw [hw24]; exact h21
  have hfr33 : ∀ z, z < 1 ∨ 8 < z → w23 z = w z := fun z hz => by rw [hw24]; exact (va_up_ne _ _ (by omega)).trans (hfr22 z hz)
  refine lv_aload_n hx hb dP_open_32 rfl (lv_at hl 1 rfl) ?_
  refine g_get hx hb hts inP hown hK hG 1 (by decide) h25 rfl 5 (by decide) lkP_28 rfl dP_open_33 ?_
  refine lv_iload hx hb dP_open_36 (lv_at hl 0 rfl) ?_
  refine lv_iconst (v := (-1)) hx hb dP_open_38 (by decide) ?_
  refine g_iast hx hb hK hA hG hS 7 (by decide) h31 (j := n) (by omega) (by decide) dP_open_39 (fun H locs hG hS => ?_)
  obtain ⟨w34, hw35⟩ : ∃ zz9, zz9 = va_up w23 7 (.inl (k.1, 12, .inl (upd ri n (-1)))) := ⟨_, rfl⟩
  replace hG : gW D a w34 H := by rw [hw35]; exact hG
  have h36 : w34 1 = .inr (1, [.ref (a 2), .ref (a 3), .ref (a 4), .ref (a 5), .ref (a 6), .ref (a 7), .ref (a 8), .int (nI (n + 1))]) := by rw [hw35]; exact h25
  have h37 : w34 2 = .inl (k.2.1, 12, .inr (.inl (vp_updL up n u))) := by rw [hw35]; exact h26
  have h38 : w34 3 = .inl (k.2.1, 12, .inr (.inl lo)) := by rw [hw35]; exact h27
  have h39 : w34 4 = .inl (k.1, 12, .inl (upd fa n q)) := by rw [hw35]; exact h28
  have h40 : w34 5 = .inl (k.1, 72, .inl we) := by rw [hw35]; exact h29
  have h41 : w34 6 = .inl (k.1, 72, .inl ti) := by rw [hw35]; exact h30
  have h42 : w34 7 = .inl (k.1, 12, .inl (upd ri n (-1))) := by rw [hw35]; rfl
  have h43 : w34 8 = .inl (k.2.2, 144, .inl jo) := by rw [hw35]; exact h32
  have hfr44 : ∀ z, z < 1 ∨ 8 < z → w34 z = w z := fun z hz => by rw [hw35]; exact (va_up_ne _ _ (by omega)).trans (hfr33 z hz)
  refine lv_iload hx hb dP_open_40 (lv_at hl 0 rfl) ?_
  exact g_iret hQ hx hb hr hlk hG hK hS (by decide) (by decide) ⟨by first | rfl | omega | (simp_all; done) | grind, ⟨h36, h37, h38, h39, h40, h41, h42, h43⟩, hfr44⟩ dP_open_42

abbrev rmP_setTimes : Room := { frames := 0, cells := 0, slots := 0, locals := 0 }
set_option maxRecDepth 100000 in
set_option maxHeartbeats 4000000 in
theorem kP_setTimes {l : Launch} {D : va_G} {k : ClassId × ClassId × ClassId} {a : Nat → Nat} {B0 : Nat} {w : Nat → va_E} (hA : gA B0 a) {n : Nat} {up : Nat → Int64} {lo : Nat → Int64} {fa : Nat → Int32} {we : Nat → Int32} {ti : Nat → Int32} {ri : Nat → Int32} {jo : Nat → Int32} (hsP : sP k a w n up lo fa we ti ri jo) (j : Nat) (f : Nat) (h : Int32) (hj : j < 12) (hf : f < 6) : Met l yP_setTimes (tbw yP_setTimes cP_setTimes 5 none) rmP_setTimes (gPc D k a B0 w [.ref (a 1), .int (nI j), .int (nI f), .int h]) (va_Qv (fun w1 => (sP k a w1 n up (vp_updL lo j (lo j + (we (j * 6 + f)).toInt64 * (h - ti (j * 6 + f)).toInt64)) fa we (upd ti (j * 6 + f) h) ri jo) ∧ ∀ z, z < 1 ∨ 8 < z → w1 z = w z) (gB D k a) (gF B0)) 0 0 (gF B0) := by
  obtain ⟨hsP1, hsP2, hsP3, hsP4, hsP5, hsP6, hsP7, hsP8⟩ := hsP
  refine g_ofW (by decide) rfl (fun p e s m args below meth c Q hQ hx hb hr hlk hml hown hts hB hG hK hS ls hl => ?_)
  have hl : lv_has ls 5 [(0, .ref (a 1)), (1, .int (nI j)), (2, .int (nI f)), (3, .int h)] := hl
  have hown : s.vm.findClass RP = some m.cls := hown
  have hfr0 : ∀ z, z < 1 ∨ 8 < z → w z = w z := fun _ _ => rfl
  refine lv_iload_n hx hb dP_setTimes_0 rfl (lv_at hl 1 rfl) ?_
  refine lv_bipush (v := 6) hx hb dP_setTimes_1 (by decide) ?_
  refine ln_imul (x := j) (y := 6) hx hb dP_setTimes_3 ?_
  refine lv_iload_n hx hb dP_setTimes_4 rfl (lv_at hl 2 rfl) ?_
  refine ln_iadd (x := j * 6) (y := f) hx hb dP_setTimes_5 ?_
  refine lv_istore (lv' := [(4, .int (nI ((j * 6) + f))), (0, .ref (a 1)), (1, .int (nI j)), (2, .int (nI f)), (3, .int h)]) hx hb dP_setTimes_6 hl (by decide) rfl (fun ls hl => ?_)
  refine lv_aload_n hx hb dP_setTimes_8 rfl (lv_at hl 1 rfl) ?_
  refine g_get hx hb hts inP hown hK hG 1 (by decide) hsP1 rfl 1 (by decide) lkP_15 rfl dP_setTimes_9 ?_
  refine lv_iload_n hx hb dP_setTimes_12 rfl (lv_at hl 2 rfl) ?_
  refine lv_dup2_11 hx hb dP_setTimes_13 rfl rfl ?_
  refine g_lald hx hb hK hG 3 (by decide) hsP3 (j := j) (by omega) (by decide) dP_setTimes_14 ?_
  refine lv_aload_n hx hb dP_setTimes_15 rfl (lv_at hl 1 rfl) ?_
  refine g_get hx hb hts inP hown hK hG 1 (by decide) hsP1 rfl 3 (by decide) lkP_22 rfl dP_setTimes_16 ?_
  refine lv_iload hx hb dP_setTimes_19 (lv_at hl 0 rfl) ?_
  refine g_iald hx hb hK hG 5 (by decide) hsP5 (j := (j * 6) + f) (by omega) (by decide) dP_setTimes_21 ?_
  refine lv_i2l hx hb dP_setTimes_22 rfl ?_
  refine lv_iload_n hx hb dP_setTimes_23 rfl (lv_at hl 4 rfl) ?_
  refine lv_aload_n hx hb dP_setTimes_24 rfl (lv_at hl 1 rfl) ?_
  refine g_get hx hb hts inP hown hK hG 1 (by decide) hsP1 rfl 4 (by decide) lkP_25 rfl dP_setTimes_25 ?_
  refine lv_iload hx hb dP_setTimes_28 (lv_at hl 0 rfl) ?_
  refine g_iald hx hb hK hG 6 (by decide) hsP6 (j := (j * 6) + f) (by omega) (by decide) dP_setTimes_30 ?_
  refine lv_isub hx hb dP_setTimes_31 ?_
  refine lv_i2l hx hb dP_setTimes_32 rfl ?_
  refine lv_lmul hx hb dP_setTimes_33 ?_
  refine lv_ladd hx hb dP_setTimes_34 ?_
  refine g_last hx hb hK hA hG hS 3 (by decide) hsP3 (j := j) (by omega) (by decide) dP_setTimes_35 (fun H locs hG hS => ?_)
  obtain ⟨w1, hw2⟩ : ∃ zz9, zz9 = va_up w 3 (.inl (k.2.1, 12, .inr (.inl (vp_updL lo j ((lo j) + (((we ((j * 6) + f)).toInt64) * ((h - (ti ((j * 6) + f))).toInt64))))))) := ⟨_, rfl⟩
  replace hG : gW D a w1 H := by rw [hw2]; exact hG
  have h3 : w1 1 = .inr (1, [.ref (a 2), .ref (a 3), .ref (a 4), .ref (a 5), .ref (a 6), .ref (a 7), .ref (a 8), .int (nI n)]) := by rw [hw2]; exact hsP1
  have h4 : w1 2 = .inl (k.2.1, 12, .inr (.inl up)) := by rw [hw2]; exact hsP2
  have h5 : w1 3 = .inl (k.2.1, 12, .inr (.inl (vp_updL lo j ((lo j) + (((we ((j * 6) + f)).toInt64) * ((h - (ti ((j * 6) + f))).toInt64)))))) := by rw [hw2]; rfl
  have h6 : w1 4 = .inl (k.1, 12, .inl fa) := by rw [hw2]; exact hsP4
  have h7 : w1 5 = .inl (k.1, 72, .inl we) := by rw [hw2]; exact hsP5
  have h8 : w1 6 = .inl (k.1, 72, .inl ti) := by rw [hw2]; exact hsP6
  have h9 : w1 7 = .inl (k.1, 12, .inl ri) := by rw [hw2]; exact hsP7
  have h10 : w1 8 = .inl (k.2.2, 144, .inl jo) := by rw [hw2]; exact hsP8
  have hfr11 : ∀ z, z < 1 ∨ 8 < z → w1 z = w z := fun z hz => by rw [hw2]; exact (va_up_ne _ _ (by omega)).trans (hfr0 z hz)
  refine lv_aload_n hx hb dP_setTimes_36 rfl (lv_at hl 1 rfl) ?_
  refine g_get hx hb hts inP hown hK hG 1 (by decide) h3 rfl 4 (by decide) lkP_25 rfl dP_setTimes_37 ?_
  refine lv_iload hx hb dP_setTimes_40 (lv_at hl 0 rfl) ?_
  refine lv_iload_n hx hb dP_setTimes_42 rfl (lv_at hl 4 rfl) ?_
  refine g_iast hx hb hK hA hG hS 6 (by decide) h8 (j := (j * 6) + f) (by omega) (by decide) dP_setTimes_43 (fun H locs hG hS => ?_)
  obtain ⟨w12, hw13⟩ : ∃ zz9, zz9 = va_up w1 6 (.inl (k.1, 72, .inl (upd ti ((j * 6) + f) h))) := ⟨_, rfl⟩
  replace hG : gW D a w12 H := by rw [hw13]; exact hG
  have h14 : w12 1 = .inr (1, [.ref (a 2), .ref (a 3), .ref (a 4), .ref (a 5), .ref (a 6), .ref (a 7), .ref (a 8), .int (nI n)]) := by rw [hw13]; exact h3
  have h15 : w12 2 = .inl (k.2.1, 12, .inr (.inl up)) := by rw [hw13]; exact h4
  have h16 : w12 3 = .inl (k.2.1, 12, .inr (.inl (vp_updL lo j ((lo j) + (((we ((j * 6) + f)).toInt64) * ((h - (ti ((j * 6) + f))).toInt64)))))) := by rw [hw13]; exact h5
  have h17 : w12 4 = .inl (k.1, 12, .inl fa) := by rw [hw13]; exact h6
  have h18 : w12 5 = .inl (k.1, 72, .inl we) := by rw [hw13]; exact h7
  have h19 : w12 6 = .inl (k.1, 72, .inl (upd ti ((j * 6) + f) h)) := by rw [hw13]; rfl
  have h20 : w12 7 = .inl (k.1, 12, .inl ri) := by rw [hw13]; exact h9
  have h21 : w12 8 = .inl (k.2.2, 144, .inl jo) := by rw [hw13]; exact h10
  have hfr22 : ∀ z, z < 1 ∨ 8 < z → w12 z = w z := fun z hz => by rw [hw13]; exact (va_up_ne _ _ (by omega)).trans (hfr11 z hz)
  exact g_vret hQ hx hb hr hlk hG hK hS (by decide) (by decide) ⟨⟨h14, h15, h16, h17, h18, h19, h20, h21⟩, hfr22⟩ dP_setTimes_44

abbrev rmP_addFace : Room := { frames := 1, cells := 0, slots := 0, locals := 24 }
set_option maxRecDepth 100000 in
set_option maxHeartbeats 4000000 in
theorem kP_addFace {l : Launch} {D : va_G} {k : ClassId × ClassId × ClassId} {a : Nat → Nat} {B0 : Nat} {w : Nat → va_E} (hA : gA B0 a) {n : Nat} {up : Nat → Int64} {lo : Nat → Int64} {fa : Nat → Int32} {we : Nat → Int32} {ti : Nat → Int32} {ri : Nat → Int32} {jo : Nat → Int32} (hsP : sP k a w n up lo fa we ti ri jo) (j : Nat) (f : Nat) (q : Int32) (hj : j < 12) (hf : f < 6) : Met l yP_addFace (tbw yP_addFace cP_addFace 4 none) rmP_addFace (gPc D k a B0 w [.ref (a 1), .int (nI j), .int (nI f), .int q]) (va_Qv (fun w1 => (sP k a w1 n up (vp_updL lo j (lo j + q.toInt64 * (1 - ti (j * 6 + f)).toInt64)) fa (upd we (j * 6 + f) q) (upd ti (j * 6 + f) 1) ri jo) ∧ ∀ z, z < 1 ∨ 8 < z → w1 z = w z) (gB D k a) (gF B0)) 0 0 (gF B0) := by
  obtain ⟨hsP1, hsP2, hsP3, hsP4, hsP5, hsP6, hsP7, hsP8⟩ := hsP
  refine g_ofW (by decide) rfl (fun p e s m args below meth c Q hQ hx hb hr hlk hml hown hts hB hG hK hS ls hl => ?_)
  have hl : lv_has ls 4 [(0, .ref (a 1)), (1, .int (nI j)), (2, .int (nI f)), (3, .int q)] := hl
  have hown : s.vm.findClass RP = some m.cls := hown
  have hfr0 : ∀ z, z < 1 ∨ 8 < z → w z = w z := fun _ _ => rfl
  refine lv_aload_n hx hb dP_addFace_0 rfl (lv_at hl 0 rfl) ?_
  refine g_get hx hb hts inP hown hK hG 1 (by decide) hsP1 rfl 3 (by decide) lkP_22 rfl dP_addFace_1 ?_
  refine lv_iload_n hx hb dP_addFace_4 rfl (lv_at hl 1 rfl) ?_
  refine lv_bipush (v := 6) hx hb dP_addFace_5 (by decide) ?_
  refine ln_imul (x := j) (y := 6) hx hb dP_addFace_7 ?_
  refine lv_iload_n hx hb dP_addFace_8 rfl (lv_at hl 2 rfl) ?_
  refine ln_iadd (x := j * 6) (y := f) hx hb dP_addFace_9 ?_
  refine lv_iload_n hx hb dP_addFace_10 rfl (lv_at hl 3 rfl) ?_
  refine g_iast hx hb hK hA hG hS 5 (by decide) hsP5 (j := (j * 6) + f) (by omega) (by decide) dP_addFace_11 (fun H locs hG hS => ?_)
  obtain ⟨w1, hw2⟩ : ∃ zz9, zz9 = va_up w 5 (.inl (k.1, 72, .inl (upd we ((j * 6) + f) q))) := ⟨_, rfl⟩
  replace hG : gW D a w1 H := by rw [hw2]; exact hG
  have h3 : w1 1 = .inr (1, [.ref (a 2), .ref (a 3), .ref (a 4), .ref (a 5), .ref (a 6), .ref (a 7), .ref (a 8), .int (nI n)]) := by rw [hw2]; exact hsP1
  have h4 : w1 2 = .inl (k.2.1, 12, .inr (.inl up)) := by rw [hw2]; exact hsP2
  have h5 : w1 3 = .inl (k.2.1, 12, .inr (.inl lo)) := by rw [hw2]; exact hsP3
  have h6 : w1 4 = .inl (k.1, 12, .inl fa) := by rw [hw2]; exact hsP4
  have h7 : w1 5 = .inl (k.1, 72, .inl (upd we ((j * 6) + f) q)) := by rw [hw2]; rfl
  have h8 : w1 6 = .inl (k.1, 72, .inl ti) := by rw [hw2]; exact hsP6
  have h9 : w1 7 = .inl (k.1, 12, .inl ri) := by rw [hw2]; exact hsP7
  have h10 : w1 8 = .inl (k.2.2, 144, .inl jo) := by rw [hw2]; exact hsP8
  have hfr11 : ∀ z, z < 1 ∨ 8 < z → w1 z = w z := fun z hz => by rw [hw2]; exact (va_up_ne _ _ (by omega)).trans (hfr0 z hz)
  refine lv_aload_n hx hb dP_addFace_12 rfl (lv_at hl 0 rfl) ?_
  refine lv_iload_n hx hb dP_addFace_13 rfl (lv_at hl 1 rfl) ?_
  refine lv_iload_n hx hb dP_addFace_14 rfl (lv_at hl 2 rfl) ?_
  refine lv_iconst (v := 1) hx hb dP_addFace_15 (by decide) ?_
  refine g_Vv (i := 1) (As := [.int (nI j), .int (nI f), .int 1]) (rest := []) (kP_setTimes hA ⟨h3, h4, h5, h6, h7, h8, h9, h10⟩ j f 1 (by omega) (by omega)) calP_setTimes cvP_setTimes mlP_47 hx hb hml hown hts hB hG hK hS (by decide) h3 rfl ⟨by decide, by decide⟩ rfl hl.1 rfl (Nat.le_of_ble_eq_true rfl) dP_addFace_16 ⟨by decide, by decide⟩ (fun w13 H locs hp14 hG hS => ?_)
  obtain ⟨⟨h15, h16, h17, h18, h19, h20, h21, h22⟩, hfr24⟩ := hp14
  have hfr25 : ∀ z, z < 1 ∨ 8 < z → w13 z = w z := fun z hz => (hfr24 z (by omega)).trans (hfr11 z hz)
  rw [pk_us] at h17
  exact g_vret hQ hx hb hr hlk hG hK hS (by decide) (by decide) ⟨⟨h15, h16, h17, h18, h19, h20, h21, h22⟩, hfr25⟩ dP_addFace_19

abbrev rmP_upper : Room := { frames := 0, cells := 0, slots := 0, locals := 0 }
set_option maxRecDepth 100000 in
set_option maxHeartbeats 4000000 in
theorem kP_upper {l : Launch} {D : va_G} {k : ClassId × ClassId × ClassId} {a : Nat → Nat} {B0 : Nat} {w : Nat → va_E} (hA : gA B0 a) {n : Nat} {up : Nat → Int64} {lo : Nat → Int64} {fa : Nat → Int32} {we : Nat → Int32} {ti : Nat → Int32} {ri : Nat → Int32} {jo : Nat → Int32} (hsP : sP k a w n up lo fa we ti ri jo) (j : Nat) (hj : j < 12) : Met l yP_upper (tbw yP_upper cP_upper 2 (some .long)) rmP_upper (gPc D k a B0 w [.ref (a 1), .int (nI j)]) (va_Ql (roP (up j) w) (gB D k a) (gF B0)) 0 0 (gF B0) := by
  obtain ⟨hsP1, hsP2, hsP3, hsP4, hsP5, hsP6, hsP7, hsP8⟩ := hsP
  refine g_ofW (by decide) rfl (fun p e s m args below meth c Q hQ hx hb hr hlk hml hown hts hB hG hK hS ls hl => ?_)
  have hl : lv_has ls 2 [(0, .ref (a 1)), (1, .int (nI j))] := hl
  have hown : s.vm.findClass RP = some m.cls := hown
  refine lv_aload_n hx hb dP_upper_0 rfl (lv_at hl 0 rfl) ?_
  refine g_get hx hb hts inP hown hK hG 1 (by decide) hsP1 rfl 0 (by decide) lkP_9 rfl dP_upper_1 ?_
  refine lv_iload_n hx hb dP_upper_4 rfl (lv_at hl 1 rfl) ?_
  refine g_lald hx hb hK hG 2 (by decide) hsP2 (j := j) (by omega) (by decide) dP_upper_5 ?_
  exact g_lret hQ hx hb hr hlk hG hK hS (by decide) (by decide) ⟨by first | rfl | omega | (simp_all; done) | grind, rfl⟩ dP_upper_6

abbrev rmP_lower : Room := { frames := 0, cells := 0, slots := 0, locals := 0 }
set_option maxRecDepth 100000 in
set_option maxHeartbeats 4000000 in
theorem kP_lower {l : Launch} {D : va_G} {k : ClassId × ClassId × ClassId} {a : Nat → Nat} {B0 : Nat} {w : Nat → va_E} (hA : gA B0 a) {n : Nat} {up : Nat → Int64} {lo : Nat → Int64} {fa : Nat → Int32} {we : Nat → Int32} {ti : Nat → Int32} {ri : Nat → Int32} {jo : Nat → Int32} (hsP : sP k a w n up lo fa we ti ri jo) (j : Nat) (hj : j < 12) : Met l yP_lower (tbw yP_lower cP_lower 2 (some .long)) rmP_lower (gPc D k a B0 w [.ref (a 1), .int (nI j)]) (va_Ql (roP (lo j) w) (gB D k a) (gF B0)) 0 0 (gF B0) := by
  obtain ⟨hsP1, hsP2, hsP3, hsP4, hsP5, hsP6, hsP7, hsP8⟩ := hsP
  refine g_ofW (by decide) rfl (fun p e s m args below meth c Q hQ hx hb hr hlk hml hown hts hB hG hK hS ls hl => ?_)
  have hl : lv_has ls 2 [(0, .ref (a 1)), (1, .int (nI j))] := hl
  have hown : s.vm.findClass RP = some m.cls := hown
  refine lv_aload_n hx hb dP_lower_0 rfl (lv_at hl 0 rfl) ?_
  refine g_get hx hb hts inP hown hK hG 1 (by decide) hsP1 rfl 1 (by decide) lkP_15 rfl dP_lower_1 ?_
  refine lv_iload_n hx hb dP_lower_4 rfl (lv_at hl 1 rfl) ?_
  refine g_lald hx hb hK hG 3 (by decide) hsP3 (j := j) (by omega) (by decide) dP_lower_5 ?_
  exact g_lret hQ hx hb hr hlk hG hK hS (by decide) (by decide) ⟨by first | rfl | omega | (simp_all; done) | grind, rfl⟩ dP_lower_6

abbrev rmP_isTold : Room := { frames := 0, cells := 0, slots := 0, locals := 0 }
set_option maxRecDepth 100000 in
set_option maxHeartbeats 4000000 in
theorem kP_isTold {l : Launch} {D : va_G} {k : ClassId × ClassId × ClassId} {a : Nat → Nat} {B0 : Nat} {w : Nat → va_E} (hA : gA B0 a) {n : Nat} {up : Nat → Int64} {lo : Nat → Int64} {fa : Nat → Int32} {we : Nat → Int32} {ti : Nat → Int32} {ri : Nat → Int32} {jo : Nat → Int32} (hsP : sP k a w n up lo fa we ti ri jo) (j : Nat) (hj : j < 12) : Met l yP_isTold (tbw yP_isTold cP_isTold 2 (some .boolean)) rmP_isTold (gPc D k a B0 w [.ref (a 1), .int (nI j)]) (va_Qi (roP (b2i (0 < lo j)) w) (gB D k a) (gF B0)) 0 0 (gF B0) := by
  obtain ⟨hsP1, hsP2, hsP3, hsP4, hsP5, hsP6, hsP7, hsP8⟩ := hsP
  refine g_ofW (by decide) rfl (fun p e s m args below meth c Q hQ hx hb hr hlk hml hown hts hB hG hK hS ls hl => ?_)
  have hl : lv_has ls 2 [(0, .ref (a 1)), (1, .int (nI j))] := hl
  have hown : s.vm.findClass RP = some m.cls := hown
  refine lv_aload_n hx hb dP_isTold_0 rfl (lv_at hl 0 rfl) ?_
  refine g_get hx hb hts inP hown hK hG 1 (by decide) hsP1 rfl 1 (by decide) lkP_15 rfl dP_isTold_1 ?_
  refine lv_iload_n hx hb dP_isTold_4 rfl (lv_at hl 1 rfl) ?_
  refine g_lald hx hb hK hG 3 (by decide) hsP3 (j := j) (by omega) (by decide) dP_isTold_5 ?_
  refine lv_lconst (v := 0) hx hb dP_isTold_6 (by decide) ?_
  refine W.lcmp hx hb dP_isTold_7 ?_
  refine lc_if_le (tgt := 15) hx hb dP_isTold_8 (by decide) (fun c1 => ?_) (fun c1 => ?_)
  · refine lv_iconst (v := 0) hx hb dP_isTold_15 (by decide) ?_
    exact g_zret hQ hx hb hr hlk hG hK hS (by decide) (by decide) (by decide) ⟨(b2i_f (by first | assumption | exact Int64.not_lt.mpr (by assumption))).symm, rfl⟩ dP_isTold_16
  · refine lv_iconst (v := 1) hx hb dP_isTold_11 (by decide) ?_
    refine lv_goto (tgt := 16) hx hb dP_isTold_12 (by decide) ?_
    exact g_zret hQ hx hb hr hlk hG hK hS (by decide) (by decide) (by decide) ⟨(b2i_t (by first | assumption | exact Int64.not_lt.mpr (by assumption))).symm, rfl⟩ dP_isTold_16

abbrev rmP_areJoined : Room := { frames := 0, cells := 0, slots := 0, locals := 0 }
set_option maxRecDepth 100000 in
set_option maxHeartbeats 4000000 in
theorem kP_areJoined {l : Launch} {D : va_G} {k : ClassId × ClassId × ClassId} {a : Nat → Nat} {B0 : Nat} {w : Nat → va_E} (hA : gA B0 a) {n : Nat} {up : Nat → Int64} {lo : Nat → Int64} {fa : Nat → Int32} {we : Nat → Int32} {ti : Nat → Int32} {ri : Nat → Int32} {jo : Nat → Int32} (hsP : sP k a w n up lo fa we ti ri jo) (j : Nat) (i : Nat) (hj : j < 12) (hi : i < 12) (hz : narrow .boolean (.int (jo (j * 12 + i))) = .int (jo (j * 12 + i))) : Met l yP_areJoined (tbw yP_areJoined cP_areJoined 3 (some .boolean)) rmP_areJoined (gPc D k a B0 w [.ref (a 1), .int (nI j), .int (nI i)]) (va_Qi (roP (jo (j * 12 + i)) w) (gB D k a) (gF B0)) 0 0 (gF B0) := by
  obtain ⟨hsP1, hsP2, hsP3, hsP4, hsP5, hsP6, hsP7, hsP8⟩ := hsP
  refine g_ofW (by decide) rfl (fun p e s m args below meth c Q hQ hx hb hr hlk hml hown hts hB hG hK hS ls hl => ?_)
  have hl : lv_has ls 3 [(0, .ref (a 1)), (1, .int (nI j)), (2, .int (nI i))] := hl
  have hown : s.vm.findClass RP = some m.cls := hown
  refine lv_aload_n hx hb dP_areJoined_0 rfl (lv_at hl 0 rfl) ?_
  refine g_get hx hb hts inP hown hK hG 1 (by decide) hsP1 rfl 6 (by decide) lkP_31 rfl dP_areJoined_1 ?_
  refine lv_iload_n hx hb dP_areJoined_4 rfl (lv_at hl 1 rfl) ?_
  refine lv_bipush (v := 12) hx hb dP_areJoined_5 (by decide) ?_
  refine ln_imul (x := j) (y := 12) hx hb dP_areJoined_7 ?_
  refine lv_iload_n hx hb dP_areJoined_8 rfl (lv_at hl 2 rfl) ?_
  refine ln_iadd (x := j * 12) (y := i) hx hb dP_areJoined_9 ?_
  refine g_zald hx hb hK hG 8 (by decide) hsP8 (j := (j * 12) + i) (by omega) (by decide) dP_areJoined_10 ?_
  exact g_zret hQ hx hb hr hlk hG hK hS (by decide) (by decide) hz ⟨by first | rfl | omega | (simp_all; done) | grind, rfl⟩ dP_areJoined_11

abbrev rmP_setJoined : Room := { frames := 0, cells := 0, slots := 0, locals := 0 }
set_option maxRecDepth 100000 in
set_option maxHeartbeats 4000000 in
theorem kP_setJoined {l : Launch} {D : va_G} {k : ClassId × ClassId × ClassId} {a : Nat → Nat} {B0 : Nat} {w : Nat → va_E} (hA : gA B0 a) {n : Nat} {up : Nat → Int64} {lo : Nat → Int64} {fa : Nat → Int32} {we : Nat → Int32} {ti : Nat → Int32} {ri : Nat → Int32} {jo : Nat → Int32} (hsP : sP k a w n up lo fa we ti ri jo) (j : Nat) (i : Nat) (P : Prop) (hj : j < 12) (hi : i < 12) : Met l yP_setJoined (tbw yP_setJoined cP_setJoined 4 none) rmP_setJoined (gPc D k a B0 w [.ref (a 1), .int (nI j), .int (nI i), .int (b2i P)]) (va_Qv (fun w1 => (sP k a w1 n up lo fa we ti ri (upd (upd jo (j * 12 + i) (b2i P)) (i * 12 + j) (b2i P))) ∧ ∀ z, z < 1 ∨ 8 < z → w1 z = w z) (gB D k a) (gF B0)) 0 0 (gF B0) := by
  obtain ⟨hsP1, hsP2, hsP3, hsP4, hsP5, hsP6, hsP7, hsP8⟩ := hsP
  refine g_ofW (by decide) rfl (fun p e s m args below meth c Q hQ hx hb hr hlk hml hown hts hB hG hK hS ls hl => ?_)
  have hl : lv_has ls 4 [(0, .ref (a 1)), (1, .int (nI j)), (2, .int (nI i)), (3, .int (b2i P))] := hl
  have hown : s.vm.findClass RP = some m.cls := hown
  have hfr0 : ∀ z, z < 1 ∨ 8 < z → w z = w z := fun _ _ => rfl
  refine lv_aload_n hx hb dP_setJoined_0 rfl (lv_at hl 0 rfl) ?_
  refine g_get hx hb hts inP hown hK hG 1 (by decide) hsP1 rfl 6 (by decide) lkP_31 rfl dP_setJoined_1 ?_
  refine lv_iload_n hx hb dP_setJoined_4 rfl (lv_at hl 1 rfl) ?_
  refine lv_bipush (v := 12) hx hb dP_setJoined_5 (by decide) ?_
  refine ln_imul (x := j) (y := 12) hx hb dP_setJoined_7 ?_
  refine lv_iload_n hx hb dP_setJoined_8 rfl (lv_at hl 2 rfl) ?_
  refine ln_iadd (x := j * 12) (y := i) hx hb dP_setJoined_9 ?_
  refine lv_iload_n hx hb dP_setJoined_10 rfl (lv_at hl 3 rfl) ?_
  refine g_zast hx hb hK hA hG hS 8 (by decide) hsP8 (j := (j * 12) + i) (by omega) (by decide) dP_setJoined_11 (fun H locs hG hS => ?_)
  obtain ⟨w1, hw2⟩ : ∃ zz9, zz9 = va_up w 8 (.inl (k.2.2, 144, .inl (upd jo ((j * 12) + i) (b2i P)))) := ⟨_, rfl⟩
  replace hG : gW D a w1 H := by rw [hw2]; exact hG
  have h3 : w1 1 = .inr (1, [.ref (a 2), .ref (a 3), .ref (a 4), .ref (a 5), .ref (a 6), .ref (a 7), .ref (a 8), .int (nI n)]) := by rw [hw2]; exact hsP1
  have h4 : w1 2 = .inl (k.2.1, 12, .inr (.inl up)) := by rw [hw2]; exact hsP2
  have h5 : w1 3 = .inl (k.2.1, 12, .inr (.inl lo)) := by rw [hw2]; exact hsP3
  have h6 : w1 4 = .inl (k.1, 12, .inl fa) := by rw [hw2]; exact hsP4
  have h7 : w1 5 = .inl (k.1, 72, .inl we) := by rw [hw2]; exact hsP5
  have h8 : w1 6 = .inl (k.1, 72, .inl ti) := by rw [hw2]; exact hsP6
  have h9 : w1 7 = .inl (k.1, 12, .inl ri) := by rw [hw2]; exact hsP7
  have h10 : w1 8 = .inl (k.2.2, 144, .inl (upd jo ((j * 12) + i) (b2i P))) := by rw [hw2]; rfl
  have hfr11 : ∀ z, z < 1 ∨ 8 < z → w1 z = w z := fun z hz => by rw [hw2]; exact (va_up_ne _ _ (by omega)).trans (hfr0 z hz)
  refine lv_aload_n hx hb dP_setJoined_12 rfl (lv_at hl 0 rfl) ?_
  refine g_get hx hb hts inP hown hK hG 1 (by decide) h3 rfl 6 (by decide) lkP_31 rfl dP_setJoined_13 ?_
  refine lv_iload_n hx hb dP_setJoined_16 rfl (lv_at hl 2 rfl) ?_
  refine lv_bipush (v := 12) hx hb dP_setJoined_17 (by decide) ?_
  refine ln_imul (x := i) (y := 12) hx hb dP_setJoined_19 ?_
  refine lv_iload_n hx hb dP_setJoined_20 rfl (lv_at hl 1 rfl) ?_
  refine ln_iadd (x := i * 12) (y := j) hx hb dP_setJoined_21 ?_
  refine lv_iload_n hx hb dP_setJoined_22 rfl (lv_at hl 3 rfl) ?_
  refine g_zast hx hb hK hA hG hS 8 (by decide) h10 (j := (i * 12) + j) (by omega) (by decide) dP_setJoined_23 (fun H locs hG hS => ?_)
  obtain ⟨w12, hw13⟩ : ∃ zz9, zz9 = va_up w1 8 (.inl (k.2.2, 144, .inl (upd (upd jo ((j * 12) + i) (b2i P)) ((i * 12) + j) (b2i P)))) := ⟨_, rfl⟩
  replace hG : gW D a w12 H := by rw [hw13]; exact hG
  have h14 : w12 1 = .inr (1, [.ref (a 2), .ref (a 3), .ref (a 4), .ref (a 5), .ref (a 6), .ref (a 7), .ref (a 8), .int (nI n)]) := by rw [hw13]; exact h3
  have h15 : w12 2 = .inl (k.2.1, 12, .inr (.inl up)) := by rw [hw13]; exact h4
  have h16 : w12 3 = .inl (k.2.1, 12, .inr (.inl lo)) := by rw [hw13]; exact h5
  have h17 : w12 4 = .inl (k.1, 12, .inl fa) := by rw [hw13]; exact h6
  have h18 : w12 5 = .inl (k.1, 72, .inl we) := by rw [hw13]; exact h7
  have h19 : w12 6 = .inl (k.1, 72, .inl ti) := by rw [hw13]; exact h8
  have h20 : w12 7 = .inl (k.1, 12, .inl ri) := by rw [hw13]; exact h9
  have h21 : w12 8 = .inl (k.2.2, 144, .inl (upd (upd jo ((j * 12) + i) (b2i P)) ((i * 12) + j) (b2i P))) := by rw [hw13]; rfl
  have hfr22 : ∀ z, z < 1 ∨ 8 < z → w12 z = w z := fun z hz => by rw [hw13]; exact (va_up_ne _ _ (by omega)).trans (hfr11 z hz)
  exact g_vret hQ hx hb hr hlk hG hK hS (by decide) (by decide) ⟨⟨h14, h15, h16, h17, h18, h19, h20, h21⟩, hfr22⟩ dP_setJoined_24

abbrev rmP_riserOf : Room := { frames := 0, cells := 0, slots := 0, locals := 0 }
set_option maxRecDepth 100000 in
set_option maxHeartbeats 4000000 in
theorem kP_riserOf {l : Launch} {D : va_G} {k : ClassId × ClassId × ClassId} {a : Nat → Nat} {B0 : Nat} {w : Nat → va_E} (hA : gA B0 a) {n : Nat} {up : Nat → Int64} {lo : Nat → Int64} {fa : Nat → Int32} {we : Nat → Int32} {ti : Nat → Int32} {ri : Nat → Int32} {jo : Nat → Int32} (hsP : sP k a w n up lo fa we ti ri jo) (j : Nat) (hj : j < 12) : Met l yP_riserOf (tbw yP_riserOf cP_riserOf 2 (some .int)) rmP_riserOf (gPc D k a B0 w [.ref (a 1), .int (nI j)]) (va_Qi (roP (ri j) w) (gB D k a) (gF B0)) 0 0 (gF B0) := by
  obtain ⟨hsP1, hsP2, hsP3, hsP4, hsP5, hsP6, hsP7, hsP8⟩ := hsP
  refine g_ofW (by decide) rfl (fun p e s m args below meth c Q hQ hx hb hr hlk hml hown hts hB hG hK hS ls hl => ?_)
  have hl : lv_has ls 2 [(0, .ref (a 1)), (1, .int (nI j))] := hl
  have hown : s.vm.findClass RP = some m.cls := hown
  refine lv_aload_n hx hb dP_riserOf_0 rfl (lv_at hl 0 rfl) ?_
  refine g_get hx hb hts inP hown hK hG 1 (by decide) hsP1 rfl 5 (by decide) lkP_28 rfl dP_riserOf_1 ?_
  refine lv_iload_n hx hb dP_riserOf_4 rfl (lv_at hl 1 rfl) ?_
  refine g_iald hx hb hK hG 7 (by decide) hsP7 (j := j) (by omega) (by decide) dP_riserOf_5 ?_
  exact g_iret hQ hx hb hr hlk hG hK hS (by decide) (by decide) ⟨by first | rfl | omega | (simp_all; done) | grind, rfl⟩ dP_riserOf_6

abbrev rmP_setRiser : Room := { frames := 0, cells := 0, slots := 0, locals := 0 }
set_option maxRecDepth 100000 in
set_option maxHeartbeats 4000000 in
theorem kP_setRiser {l : Launch} {D : va_G} {k : ClassId × ClassId × ClassId} {a : Nat → Nat} {B0 : Nat} {w : Nat → va_E} (hA : gA B0 a) {n : Nat} {up : Nat → Int64} {lo : Nat → Int64} {fa : Nat → Int32} {we : Nat → Int32} {ti : Nat → Int32} {ri : Nat → Int32} {jo : Nat → Int32} (hsP : sP k a w n up lo fa we ti ri jo) (j : Nat) (q : Int32) (hj : j < 12) : Met l yP_setRiser (tbw yP_setRiser cP_setRiser 3 none) rmP_setRiser (gPc D k a B0 w [.ref (a 1), .int (nI j), .int q]) (va_Qv (fun w1 => (sP k a w1 n up lo fa we ti (upd ri j q) jo) ∧ ∀ z, z < 1 ∨ 8 < z → w1 z = w z) (gB D k a) (gF B0)) 0 0 (gF B0) := by
  obtain ⟨hsP1, hsP2, hsP3, hsP4, hsP5, hsP6, hsP7, hsP8⟩ := hsP
  refine g_ofW (by decide) rfl (fun p e s m args below meth c Q hQ hx hb hr hlk hml hown hts hB hG hK hS ls hl => ?_)
  have hl : lv_has ls 3 [(0, .ref (a 1)), (1, .int (nI j)), (2, .int q)] := hl
  have hown : s.vm.findClass RP = some m.cls := hown
  have hfr0 : ∀ z, z < 1 ∨ 8 < z → w z = w z := fun _ _ => rfl
  refine lv_aload_n hx hb dP_setRiser_0 rfl (lv_at hl 0 rfl) ?_
  refine g_get hx hb hts inP hown hK hG 1 (by decide) hsP1 rfl 5 (by decide) lkP_28 rfl dP_setRiser_1 ?_
  refine lv_iload_n hx hb dP_setRiser_4 rfl (lv_at hl 1 rfl) ?_
  refine lv_iload_n hx hb dP_setRiser_5 rfl (lv_at hl 2 rfl) ?_
  refine g_iast hx hb hK hA hG hS 7 (by decide) hsP7 (j := j) (by omega) (by decide) dP_setRiser_6 (fun H locs hG hS => ?_)
  obtain ⟨w1, hw2⟩ : ∃ zz9, zz9 = va_up w 7 (.inl (k.1, 12, .inl (upd ri j q))) := ⟨_, rfl⟩
  replace hG : gW D a w1 H := by rw [hw2]; exact hG
  have h3 : w1 1 = .inr (1, [.ref (a 2), .ref (a 3), .ref (a 4), .ref (a 5), .ref (a 6), .ref (a 7), .ref (a 8), .int (nI n)]) := by rw [hw2]; exact hsP1
  have h4 : w1 2 = .inl (k.2.1, 12, .inr (.inl up)) := by rw [hw2]; exact hsP2
  have h5 : w1 3 = .inl (k.2.1, 12, .inr (.inl lo)) := by rw [hw2]; exact hsP3
  have h6 : w1 4 = .inl (k.1, 12, .inl fa) := by rw [hw2]; exact hsP4
  have h7 : w1 5 = .inl (k.1, 72, .inl we) := by rw [hw2]; exact hsP5
  have h8 : w1 6 = .inl (k.1, 72, .inl ti) := by rw [hw2]; exact hsP6
  have h9 : w1 7 = .inl (k.1, 12, .inl (upd ri j q)) := by rw [hw2]; rfl
  have h10 : w1 8 = .inl (k.2.2, 144, .inl jo) := by rw [hw2]; exact hsP8
  have hfr11 : ∀ z, z < 1 ∨ 8 < z → w1 z = w z := fun z hz => by rw [hw2]; exact (va_up_ne _ _ (by omega)).trans (hfr0 z hz)
  exact g_vret hQ hx hb hr hlk hG hK hS (by decide) (by decide) ⟨⟨h3, h4, h5, h6, h7, h8, h9, h10⟩, hfr11⟩ dP_setRiser_7

abbrev rmP_addBox : Room := { frames := 2, cells := 0, slots := 0, locals := 47 }
set_option maxRecDepth 100000 in
set_option maxHeartbeats 4000000 in
theorem kP_addBox {l : Launch} {D : va_G} {k : ClassId × ClassId × ClassId} {a : Nat → Nat} {B0 : Nat} {w : Nat → va_E} (hA : gA B0 a) {n : Nat} {up : Nat → Int64} {lo : Nat → Int64} {fa : Nat → Int32} {we : Nat → Int32} {ti : Nat → Int32} {ri : Nat → Int32} {jo : Nat → Int32} (hsP : sP k a w n up lo fa we ti ri jo) (x : Int32) (y : Int32) (z : Int32) (hn : n < 12) : Met l yP_addBox (tbw yP_addBox cP_addBox 5 (some .int)) rmP_addBox (gPc D k a B0 w [.ref (a 1), .int x, .int y, .int z]) (va_Qi (fun r w1 => ∃ (up' : Nat → Int64) (lo' : Nat → Int64) (fa' : Nat → Int32) (we' : Nat → Int32) (ti' : Nat → Int32) (ri' : Nat → Int32), r = (nI n) ∧ (sP k a w1 (n + 1) up' lo' fa' we' ti' ri' jo) ∧ (up' = vp_updL up n (x.toInt64 * y.toInt64 * z.toInt64) ∧ fa' = upd fa n 6 ∧ ri' = upd ri n (-1) ∧ adB n 6 (qB x y z) lo we ti lo' we' ti') ∧ ∀ z, z < 1 ∨ 8 < z → w1 z = w z) (gB D k a) (gF B0)) 0 0 (gF B0) := by
  obtain ⟨hsP1, hsP2, hsP3, hsP4, hsP5, hsP6, hsP7, hsP8⟩ := hsP
  refine g_ofW (by decide) rfl (fun p e s m args below meth c Q hQ hx hb hr hlk hml hown hts hB hG hK hS ls hl => ?_)
  have hl : lv_has ls 5 [(0, .ref (a 1)), (1, .int x), (2, .int y), (3, .int z)] := hl
  have hown : s.vm.findClass RP = some m.cls := hown
  have hfr0 : ∀ z, z < 1 ∨ 8 < z → w z = w z := fun _ _ => rfl
  refine lv_aload_n hx hb dP_addBox_0 rfl (lv_at hl 0 rfl) ?_
  refine lv_bipush (v := 6) hx hb dP_addBox_1 (by decide) ?_
  refine lv_iload_n hx hb dP_addBox_3 rfl (lv_at hl 1 rfl) ?_
  refine lv_i2l hx hb dP_addBox_4 rfl ?_
  refine lv_iload_n hx hb dP_addBox_5 rfl (lv_at hl 2 rfl) ?_
  refine lv_i2l hx hb dP_addBox_6 rfl ?_
  refine lv_lmul hx hb dP_addBox_7 ?_
  refine lv_iload_n hx hb dP_addBox_8 rfl (lv_at hl 3 rfl) ?_
  refine lv_i2l hx hb dP_addBox_9 rfl ?_
  refine lv_lmul hx hb dP_addBox_10 ?_
  refine g_Vi (i := 1) (As := [.int 6, .long ((x.toInt64 * y.toInt64) * z.toInt64)]) (rest := []) (kP_open hA ⟨hsP1, hsP2, hsP3, hsP4, hsP5, hsP6, hsP7, hsP8⟩ 6 ((x.toInt64 * y.toInt64) * z.toInt64) (by omega)) calP_open cvP_open mlP_39 hx hb hml hown hts hB hG hK hS (by decide) hsP1 rfl ⟨by decide, by decide⟩ rfl hl.1 rfl (Nat.le_of_ble_eq_true rfl) dP_addBox_11 ⟨by decide, by decide⟩ (fun r1 w2 H locs hp3 hG hS => ?_)
  obtain ⟨er12, ⟨h4, h5, h6, h7, h8, h9, h10, h11⟩, hfr13⟩ := hp3
  have hfr14 : ∀ z, z < 1 ∨ 8 < z → w2 z = w z := fun z hz => (hfr13 z (by omega)).trans (hfr0 z hz)
  obtain ⟨z15, ez16⟩ : ∃ zz9, zz9 = (vp_updL up n ((x.toInt64 * y.toInt64) * z.toInt64)) := ⟨_, rfl⟩
  rw [← ez16] at h5
  obtain ⟨z17, ez18⟩ : ∃ zz9, zz9 = (upd fa n 6) := ⟨_, rfl⟩
  rw [← ez18] at h7
  obtain ⟨z19, ez20⟩ : ∃ zz9, zz9 = (upd ri n (-1)) := ⟨_, rfl⟩
  rw [← ez20] at h10
  rw [er12]
  refine lv_istore (lv' := [(4, .int (nI n)), (0, .ref (a 1)), (1, .int x), (2, .int y), (3, .int z)]) hx hb dP_addBox_14 hl (by decide) rfl (fun ls hl => ?_)
  refine lv_aload_n hx hb dP_addBox_16 rfl (lv_at hl 1 rfl) ?_
  refine lv_iload hx hb dP_addBox_17 (lv_at hl 0 rfl) ?_
  refine lv_iconst (v := 0) hx hb dP_addBox_19 (by decide) ?_
  refine lv_iload_n hx hb dP_addBox_20 rfl (lv_at hl 3 rfl) ?_
  refine lv_iload_n hx hb dP_addBox_21 rfl (lv_at hl 4 rfl) ?_
  refine lv_imul hx hb dP_addBox_22 ?_
  refine g_Vv (i := 1) (As := [.int (nI n), .int 0, .int (y * z)]) (rest := []) (kP_addFace hA ⟨h4, h5, h6, h7, h8, h9, h10, h11⟩ n 0 (y * z) (by omega) (by omega)) calP_addFace cvP_addFace mlP_43 hx hb hml hown hts hB hG hK hS (by decide) h4 rfl ⟨by decide, by decide⟩ rfl hl.1 rfl (Nat.le_of_ble_eq_true rfl) dP_addBox_23 ⟨by decide, by decide⟩ (fun w22 H locs hp23 hG hS => ?_)
  obtain ⟨⟨h24, h25, h26, h27, h28, h29, h30, h31⟩, hfr33⟩ := hp23
  have hfr34 : ∀ z, z < 1 ∨ 8 < z → w22 z = w z := fun z hz => (hfr33 z (by omega)).trans (hfr14 z hz)
  obtain ⟨z35, ez36⟩ : ∃ zz9, zz9 = (vp_updL lo n (lo n + (y * z).toInt64 * (1 - ti (n * 6 + 0)).toInt64)) := ⟨_, rfl⟩
  rw [← ez36] at h26
  obtain ⟨z37, ez38⟩ : ∃ zz9, zz9 = (upd we (n * 6 + 0) (y * z)) := ⟨_, rfl⟩
  rw [← ez38] at h28
  obtain ⟨z39, ez40⟩ : ∃ zz9, zz9 = (upd ti (n * 6 + 0) 1) := ⟨_, rfl⟩
  rw [← ez40] at h29
  refine lv_aload_n hx hb dP_addBox_26 rfl (lv_at hl 1 rfl) ?_
  refine lv_iload hx hb dP_addBox_27 (lv_at hl 0 rfl) ?_
  refine lv_iconst (v := 1) hx hb dP_addBox_29 (by decide) ?_
  refine lv_iload_n hx hb dP_addBox_30 rfl (lv_at hl 3 rfl) ?_
  refine lv_iload_n hx hb dP_addBox_31 rfl (lv_at hl 4 rfl) ?_
  refine lv_imul hx hb dP_addBox_32 ?_
  refine g_Vv (i := 1) (As := [.int (nI n), .int 1, .int (y * z)]) (rest := []) (kP_addFace hA ⟨h24, h25, h26, h27, h28, h29, h30, h31⟩ n 1 (y * z) (by omega) (by omega)) calP_addFace cvP_addFace mlP_43 hx hb hml hown hts hB hG hK hS (by decide) h24 rfl ⟨by decide, by decide⟩ rfl hl.1 rfl (Nat.le_of_ble_eq_true rfl) dP_addBox_33 ⟨by decide, by decide⟩ (fun w42 H locs hp43 hG hS => ?_)
  obtain ⟨⟨h44, h45, h46, h47, h48, h49, h50, h51⟩, hfr53⟩ := hp43
  have hfr54 : ∀ z, z < 1 ∨ 8 < z → w42 z = w z := fun z hz => (hfr53 z (by omega)).trans (hfr34 z hz)
  obtain ⟨z55, ez56⟩ : ∃ zz9, zz9 = (vp_updL z35 n (z35 n + (y * z).toInt64 * (1 - z39 (n * 6 + 1)).toInt64)) := ⟨_, rfl⟩
  rw [← ez56] at h46
  obtain ⟨z57, ez58⟩ : ∃ zz9, zz9 = (upd z37 (n * 6 + 1) (y * z)) := ⟨_, rfl⟩
  rw [← ez58] at h48
  obtain ⟨z59, ez60⟩ : ∃ zz9, zz9 = (upd z39 (n * 6 + 1) 1) := ⟨_, rfl⟩
  rw [← ez60] at h49
  refine lv_aload_n hx hb dP_addBox_36 rfl (lv_at hl 1 rfl) ?_
  refine lv_iload hx hb dP_addBox_37 (lv_at hl 0 rfl) ?_
  refine lv_iconst (v := 2) hx hb dP_addBox_39 (by decide) ?_
  refine lv_iload_n hx hb dP_addBox_40 rfl (lv_at hl 2 rfl) ?_
  refine lv_iload_n hx hb dP_addBox_41 rfl (lv_at hl 4 rfl) ?_
  refine lv_imul hx hb dP_addBox_42 ?_
  refine g_Vv (i := 1) (As := [.int (nI n), .int 2, .int (x * z)]) (rest := []) (kP_addFace hA ⟨h44, h45, h46, h47, h48, h49, h50, h51⟩ n 2 (x * z) (by omega) (by omega)) calP_addFace cvP_addFace mlP_43 hx hb hml hown hts hB hG hK hS (by decide) h44 rfl ⟨by decide, by decide⟩ rfl hl.1 rfl (Nat.le_of_ble_eq_true rfl) dP_addBox_43 ⟨by decide, by decide⟩ (fun w62 H locs hp63 hG hS => ?_)
  obtain ⟨⟨h64, h65, h66, h67, h68, h69, h70, h71⟩, hfr73⟩ := hp63
  have hfr74 : ∀ z, z < 1 ∨ 8 < z → w62 z = w z := fun z hz => (hfr73 z (by omega)).trans (hfr54 z hz)
  obtain ⟨z75, ez76⟩ : ∃ zz9, zz9 = (vp_updL z55 n (z55 n + (x * z).toInt64 * (1 - z59 (n * 6 + 2)).toInt64)) := ⟨_, rfl⟩
  rw [← ez76] at h66
  obtain ⟨z77, ez78⟩ : ∃ zz9, zz9 = (upd z57 (n * 6 + 2) (x * z)) := ⟨_, rfl⟩
  rw [← ez78] at h68
  obtain ⟨z79, ez80⟩ : ∃ zz9, zz9 = (upd z59 (n * 6 + 2) 1) := ⟨_, rfl⟩
  rw [← ez80] at h69
  refine lv_aload_n hx hb dP_addBox_46 rfl (lv_at hl 1 rfl) ?_
  refine lv_iload hx hb dP_addBox_47 (lv_at hl 0 rfl) ?_
  refine lv_iconst (v := 3) hx hb dP_addBox_49 (by decide) ?_
  refine lv_iload_n hx hb dP_addBox_50 rfl (lv_at hl 2 rfl) ?_
  refine lv_iload_n hx hb dP_addBox_51 rfl (lv_at hl 4 rfl) ?_
  refine lv_imul hx hb dP_addBox_52 ?_
  refine g_Vv (i := 1) (As := [.int (nI n), .int 3, .int (x * z)]) (rest := []) (kP_addFace hA ⟨h64, h65, h66, h67, h68, h69, h70, h71⟩ n 3 (x * z) (by omega) (by omega)) calP_addFace cvP_addFace mlP_43 hx hb hml hown hts hB hG hK hS (by decide) h64 rfl ⟨by decide, by decide⟩ rfl hl.1 rfl (Nat.le_of_ble_eq_true rfl) dP_addBox_53 ⟨by decide, by decide⟩ (fun w82 H locs hp83 hG hS => ?_)
  obtain ⟨⟨h84, h85, h86, h87, h88, h89, h90, h91⟩, hfr93⟩ := hp83
  have hfr94 : ∀ z, z < 1 ∨ 8 < z → w82 z = w z := fun z hz => (hfr93 z (by omega)).trans (hfr74 z hz)
  obtain ⟨z95, ez96⟩ : ∃ zz9, zz9 = (vp_updL z75 n (z75 n + (x * z).toInt64 * (1 - z79 (n * 6 + 3)).toInt64)) := ⟨_, rfl⟩
  rw [← ez96] at h86
  obtain ⟨z97, ez98⟩ : ∃ zz9, zz9 = (upd z77 (n * 6 + 3) (x * z)) := ⟨_, rfl⟩
  rw [← ez98] at h88
  obtain ⟨z99, ez100⟩ : ∃ zz9, zz9 = (upd z79 (n * 6 + 3) 1) := ⟨_, rfl⟩
  rw [← ez100] at h89
  refine lv_aload_n hx hb dP_addBox_56 rfl (lv_at hl 1 rfl) ?_
  refine lv_iload hx hb dP_addBox_57 (lv_at hl 0 rfl) ?_
  refine lv_iconst (v := 4) hx hb dP_addBox_59 (by decide) ?_
  refine lv_iload_n hx hb dP_addBox_60 rfl (lv_at hl 2 rfl) ?_
  refine lv_iload_n hx hb dP_addBox_61 rfl (lv_at hl 3 rfl) ?_
  refine lv_imul hx hb dP_addBox_62 ?_
  refine g_Vv (i := 1) (As := [.int (nI n), .int 4, .int (x * y)]) (rest := []) (kP_addFace hA ⟨h84, h85, h86, h87, h88, h89, h90, h91⟩ n 4 (x * y) (by omega) (by omega)) calP_addFace cvP_addFace mlP_43 hx hb hml hown hts hB hG hK hS (by decide) h84 rfl ⟨by decide, by decide⟩ rfl hl.1 rfl (Nat.le_of_ble_eq_true rfl) dP_addBox_63 ⟨by decide, by decide⟩ (fun w102 H locs hp103 hG hS => ?_)
  obtain ⟨⟨h104, h105, h106, h107, h108, h109, h110, h111⟩, hfr113⟩ := hp103
  have hfr114 : ∀ z, z < 1 ∨ 8 < z → w102 z = w z := fun z hz => (hfr113 z (by omega)).trans (hfr94 z hz)
  obtain ⟨z115, ez116⟩ : ∃ zz9, zz9 = (vp_updL z95 n (z95 n + (x * y).toInt64 * (1 - z99 (n * 6 + 4)).toInt64)) := ⟨_, rfl⟩
  rw [← ez116] at h106
  obtain ⟨z117, ez118⟩ : ∃ zz9, zz9 = (upd z97 (n * 6 + 4) (x * y)) := ⟨_, rfl⟩
  rw [← ez118] at h108
  obtain ⟨z119, ez120⟩ : ∃ zz9, zz9 = (upd z99 (n * 6 + 4) 1) := ⟨_, rfl⟩
  rw [← ez120] at h109
  refine lv_aload_n hx hb dP_addBox_66 rfl (lv_at hl 1 rfl) ?_
  refine lv_iload hx hb dP_addBox_67 (lv_at hl 0 rfl) ?_
  refine lv_iconst (v := 5) hx hb dP_addBox_69 (by decide) ?_
  refine lv_iload_n hx hb dP_addBox_70 rfl (lv_at hl 2 rfl) ?_
  refine lv_iload_n hx hb dP_addBox_71 rfl (lv_at hl 3 rfl) ?_
  refine lv_imul hx hb dP_addBox_72 ?_
  refine g_Vv (i := 1) (As := [.int (nI n), .int 5, .int (x * y)]) (rest := []) (kP_addFace hA ⟨h104, h105, h106, h107, h108, h109, h110, h111⟩ n 5 (x * y) (by omega) (by omega)) calP_addFace cvP_addFace mlP_43 hx hb hml hown hts hB hG hK hS (by decide) h104 rfl ⟨by decide, by decide⟩ rfl hl.1 rfl (Nat.le_of_ble_eq_true rfl) dP_addBox_73 ⟨by decide, by decide⟩ (fun w122 H locs hp123 hG hS => ?_)
  obtain ⟨⟨h124, h125, h126, h127, h128, h129, h130, h131⟩, hfr133⟩ := hp123
  have hfr134 : ∀ z, z < 1 ∨ 8 < z → w122 z = w z := fun z hz => (hfr133 z (by omega)).trans (hfr114 z hz)
  obtain ⟨z135, ez136⟩ : ∃ zz9, zz9 = (vp_updL z115 n (z115 n + (x * y).toInt64 * (1 - z119 (n * 6 + 5)).toInt64)) := ⟨_, rfl⟩
  rw [← ez136] at h126
  obtain ⟨z137, ez138⟩ : ∃ zz9, zz9 = (upd z117 (n * 6 + 5) (x * y)) := ⟨_, rfl⟩
  rw [← ez138] at h128
  obtain ⟨z139, ez140⟩ : ∃ zz9, zz9 = (upd z119 (n * 6 + 5) 1) := ⟨_, rfl⟩
  rw [← ez140] at h129
  refine lv_iload hx hb dP_addBox_76 (lv_at hl 0 rfl) ?_
  exact g_iret hQ hx hb hr hlk hG hK hS (by decide) (by decide) ⟨z15, z135, z17, z137, z139, z19, by first | rfl | omega | (simp_all; done) | grind, ⟨h124, h125, h126, h127, h128, h129, h130, h131⟩, ⟨ez16, ez18, ez20, (adB_s (adB_s (adB_s (adB_s (adB_s (adB_s (adB_0 n (qB x y z) lo we ti) ez38 ez40 ez36) ez58 ez60 ez56) ez78 ez80 ez76) ez98 ez100 ez96) ez118 ez120 ez116) ez138 ez140 ez136)⟩, hfr134⟩ dP_addBox_78

abbrev rmP_addCylinder : Room := { frames := 2, cells := 0, slots := 0, locals := 47 }
set_option maxRecDepth 100000 in
set_option maxHeartbeats 4000000 in
theorem kP_addCylinder {l : Launch} {D : va_G} {k : ClassId × ClassId × ClassId} {a : Nat → Nat} {B0 : Nat} {w : Nat → va_E} (hA : gA B0 a) {n : Nat} {up : Nat → Int64} {lo : Nat → Int64} {fa : Nat → Int32} {we : Nat → Int32} {ti : Nat → Int32} {ri : Nat → Int32} {jo : Nat → Int32} (hsP : sP k a w n up lo fa we ti ri jo) (x : Int32) (y : Int32) (hn : n < 12) : Met l yP_addCylinder (tbw yP_addCylinder cP_addCylinder 4 (some .int)) rmP_addCylinder (gPc D k a B0 w [.ref (a 1), .int x, .int y]) (va_Qi (fun r w1 => ∃ (up' : Nat → Int64) (lo' : Nat → Int64) (fa' : Nat → Int32) (we' : Nat → Int32) (ti' : Nat → Int32) (ri' : Nat → Int32), r = (nI n) ∧ (sP k a w1 (n + 1) up' lo' fa' we' ti' ri' jo) ∧ (up' = vp_updL up n (x.toInt64 * y.toInt64) ∧ fa' = upd fa n 3 ∧ ri' = upd ri n (-1) ∧ adB n 3 (qC x y) lo we ti lo' we' ti') ∧ ∀ z, z < 1 ∨ 8 < z → w1 z = w z) (gB D k a) (gF B0)) 0 0 (gF B0) := by
  obtain ⟨hsP1, hsP2, hsP3, hsP4, hsP5, hsP6, hsP7, hsP8⟩ := hsP
  refine g_ofW (by decide) rfl (fun p e s m args below meth c Q hQ hx hb hr hlk hml hown hts hB hG hK hS ls hl => ?_)
  have hl : lv_has ls 4 [(0, .ref (a 1)), (1, .int x), (2, .int y)] := hl
  have hown : s.vm.findClass RP = some m.cls := hown
  have hfr0 : ∀ z, z < 1 ∨ 8 < z → w z = w z := fun _ _ => rfl
  refine lv_aload_n hx hb dP_addCylinder_0 rfl (lv_at hl 0 rfl) ?_
  refine lv_iconst (v := 3) hx hb dP_addCylinder_1 (by decide) ?_
  refine lv_iload_n hx hb dP_addCylinder_2 rfl (lv_at hl 1 rfl) ?_
  refine lv_i2l hx hb dP_addCylinder_3 rfl ?_
  refine lv_iload_n hx hb dP_addCylinder_4 rfl (lv_at hl 2 rfl) ?_
  refine lv_i2l hx hb dP_addCylinder_5 rfl ?_
  refine lv_lmul hx hb dP_addCylinder_6 ?_
  refine g_Vi (i := 1) (As := [.int 3, .long (x.toInt64 * y.toInt64)]) (rest := []) (kP_open hA ⟨hsP1, hsP2, hsP3, hsP4, hsP5, hsP6, hsP7, hsP8⟩ 3 (x.toInt64 * y.toInt64) (by omega)) calP_open cvP_open mlP_39 hx hb hml hown hts hB hG hK hS (by decide) hsP1 rfl ⟨by decide, by decide⟩ rfl hl.1 rfl (Nat.le_of_ble_eq_true rfl) dP_addCylinder_7 ⟨by decide, by decide⟩ (fun r1 w2 H locs hp3 hG hS => ?_)
  obtain ⟨er12, ⟨h4, h5, h6, h7, h8, h9, h10, h11⟩, hfr13⟩ := hp3
  have hfr14 : ∀ z, z < 1 ∨ 8 < z → w2 z = w z := fun z hz => (hfr13 z (by omega)).trans (hfr0 z hz)
  obtain ⟨z15, ez16⟩ : ∃ zz9, zz9 = (vp_updL up n (x.toInt64 * y.toInt64)) := ⟨_, rfl⟩
  rw [← ez16] at h5
  obtain ⟨z17, ez18⟩ : ∃ zz9, zz9 = (upd fa n 3) := ⟨_, rfl⟩
  rw [← ez18] at h7
  obtain ⟨z19, ez20⟩ : ∃ zz9, zz9 = (upd ri n (-1)) := ⟨_, rfl⟩
  rw [← ez20] at h10
  rw [er12]
  refine lv_istore_n (lv' := [(3, .int (nI n)), (0, .ref (a 1)), (1, .int x), (2, .int y)]) hx hb dP_addCylinder_10 rfl hl (by decide) rfl (fun ls hl => ?_)
  refine lv_aload_n hx hb dP_addCylinder_11 rfl (lv_at hl 1 rfl) ?_
  refine lv_iload_n hx hb dP_addCylinder_12 rfl (lv_at hl 0 rfl) ?_
  refine lv_iconst (v := 0) hx hb dP_addCylinder_13 (by decide) ?_
  refine lv_iconst (v := 4) hx hb dP_addCylinder_14 (by decide) ?_
  refine lv_iload_n hx hb dP_addCylinder_15 rfl (lv_at hl 3 rfl) ?_
  refine lv_imul hx hb dP_addCylinder_16 ?_
  refine g_Vv (i := 1) (As := [.int (nI n), .int 0, .int (4 * y)]) (rest := []) (kP_addFace hA ⟨h4, h5, h6, h7, h8, h9, h10, h11⟩ n 0 (4 * y) (by omega) (by omega)) calP_addFace cvP_addFace mlP_43 hx hb hml hown hts hB hG hK hS (by decide) h4 rfl ⟨by decide, by decide⟩ rfl hl.1 rfl (Nat.le_of_ble_eq_true rfl) dP_addCylinder_17 ⟨by decide, by decide⟩ (fun w22 H locs hp23 hG hS => ?_)
  obtain ⟨⟨h24, h25, h26, h27, h28, h29, h30, h31⟩, hfr33⟩ := hp23
  have hfr34 : ∀ z, z < 1 ∨ 8 < z → w22 z = w z := fun z hz => (hfr33 z (by omega)).trans (hfr14 z hz)
  obtain ⟨z35, ez36⟩ : ∃ zz9, zz9 = (vp_updL lo n (lo n + (4 * y).toInt64 * (1 - ti (n * 6 + 0)).toInt64)) := ⟨_, rfl⟩
  rw [← ez36] at h26
  obtain ⟨z37, ez38⟩ : ∃ zz9, zz9 = (upd we (n * 6 + 0) (4 * y)) := ⟨_, rfl⟩
  rw [← ez38] at h28
  obtain ⟨z39, ez40⟩ : ∃ zz9, zz9 = (upd ti (n * 6 + 0) 1) := ⟨_, rfl⟩
  rw [← ez40] at h29
  refine lv_aload_n hx hb dP_addCylinder_20 rfl (lv_at hl 1 rfl) ?_
  refine lv_iload_n hx hb dP_addCylinder_21 rfl (lv_at hl 0 rfl) ?_
  refine lv_iconst (v := 1) hx hb dP_addCylinder_22 (by decide) ?_
  refine lv_iload_n hx hb dP_addCylinder_23 rfl (lv_at hl 2 rfl) ?_
  refine g_Vv (i := 1) (As := [.int (nI n), .int 1, .int x]) (rest := []) (kP_addFace hA ⟨h24, h25, h26, h27, h28, h29, h30, h31⟩ n 1 x (by omega) (by omega)) calP_addFace cvP_addFace mlP_43 hx hb hml hown hts hB hG hK hS (by decide) h24 rfl ⟨by decide, by decide⟩ rfl hl.1 rfl (Nat.le_of_ble_eq_true rfl) dP_addCylinder_24 ⟨by decide, by decide⟩ (fun w42 H locs hp43 hG hS => ?_)
  obtain ⟨⟨h44, h45, h46, h47, h48, h49, h50, h51⟩, hfr53⟩ := hp43
  have hfr54 : ∀ z, z < 1 ∨ 8 < z → w42 z = w z := fun z hz => (hfr53 z (by omega)).trans (hfr34 z hz)
  obtain ⟨z55, ez56⟩ : ∃ zz9, zz9 = (vp_updL z35 n (z35 n + x.toInt64 * (1 - z39 (n * 6 + 1)).toInt64)) := ⟨_, rfl⟩
  rw [← ez56] at h46
  obtain ⟨z57, ez58⟩ : ∃ zz9, zz9 = (upd z37 (n * 6 + 1) x) := ⟨_, rfl⟩
  rw [← ez58] at h48
  obtain ⟨z59, ez60⟩ : ∃ zz9, zz9 = (upd z39 (n * 6 + 1) 1) := ⟨_, rfl⟩
  rw [← ez60] at h49
  refine lv_aload_n hx hb dP_addCylinder_27 rfl (lv_at hl 1 rfl) ?_
  refine lv_iload_n hx hb dP_addCylinder_28 rfl (lv_at hl 0 rfl) ?_
  refine lv_iconst (v := 2) hx hb dP_addCylinder_29 (by decide) ?_
  refine lv_iload_n hx hb dP_addCylinder_30 rfl (lv_at hl 2 rfl) ?_
  refine g_Vv (i := 1) (As := [.int (nI n), .int 2, .int x]) (rest := []) (kP_addFace hA ⟨h44, h45, h46, h47, h48, h49, h50, h51⟩ n 2 x (by omega) (by omega)) calP_addFace cvP_addFace mlP_43 hx hb hml hown hts hB hG hK hS (by decide) h44 rfl ⟨by decide, by decide⟩ rfl hl.1 rfl (Nat.le_of_ble_eq_true rfl) dP_addCylinder_31 ⟨by decide, by decide⟩ (fun w62 H locs hp63 hG hS => ?_)
  obtain ⟨⟨h64, h65, h66, h67, h68, h69, h70, h71⟩, hfr73⟩ := hp63
  have hfr74 : ∀ z, z < 1 ∨ 8 < z → w62 z = w z := fun z hz => (hfr73 z (by omega)).trans (hfr54 z hz)
  obtain ⟨z75, ez76⟩ : ∃ zz9, zz9 = (vp_updL z55 n (z55 n + x.toInt64 * (1 - z59 (n * 6 + 2)).toInt64)) := ⟨_, rfl⟩
  rw [← ez76] at h66
  obtain ⟨z77, ez78⟩ : ∃ zz9, zz9 = (upd z57 (n * 6 + 2) x) := ⟨_, rfl⟩
  rw [← ez78] at h68
  obtain ⟨z79, ez80⟩ : ∃ zz9, zz9 = (upd z59 (n * 6 + 2) 1) := ⟨_, rfl⟩
  rw [← ez80] at h69
  refine lv_iload_n hx hb dP_addCylinder_34 rfl (lv_at hl 0 rfl) ?_
  exact g_iret hQ hx hb hr hlk hG hK hS (by decide) (by decide) ⟨z15, z75, z17, z77, z79, z19, by first | rfl | omega | (simp_all; done) | grind, ⟨h64, h65, h66, h67, h68, h69, h70, h71⟩, ⟨ez16, ez18, ez20, (adB_s (adB_s (adB_s (adB_0 n (qC x y) lo we ti) ez38 ez40 ez36) ez58 ez60 ez56) ez78 ez80 ez76)⟩, hfr74⟩ dP_addCylinder_35
end
section
abbrev rmJ_compare : Room := { frames := 0, cells := 0, slots := 0, locals := 0 }
set_option maxRecDepth 100000 in
set_option maxHeartbeats 4000000 in
theorem kJ_compare {l : Launch} {D : va_G} {k : ClassId × ClassId × ClassId} {a : Nat → Nat} {B0 : Nat} {w : Nat → va_E} (hA : gA B0 a)  (x : Int64) (y : Int64) : Met l yJ_compare (tbw yJ_compare cJ_compare 4 (some .int)) rmJ_compare (gPc D k a B0 w [.long x, .long y]) (va_Qi (roP (cmpL x y) w) (gB D k a) (gF B0)) 0 0 (gF B0) := by
  refine g_ofW (by decide) rfl (fun p e s m args below meth c Q hQ hx hb hr hlk hml hown hts hB hG hK hS ls hl => ?_)
  have hl : lv_has ls 4 [(0, .long x), (2, .long y)] := hl
  have hown : s.vm.findClass RJ = some m.cls := hown
  refine lv_lload_n hx hb dJ_compare_0 rfl (lv_at hl 0 rfl) ?_
  refine lv_lload_n hx hb dJ_compare_1 rfl (lv_at hl 1 rfl) ?_
  refine W.lcmp hx hb dJ_compare_2 ?_
  refine lc_if_ge (tgt := 10) hx hb dJ_compare_3 (by decide) (fun c1 => ?_) (fun c1 => ?_)
  · refine lv_lload_n hx hb dJ_compare_10 rfl (lv_at hl 0 rfl) ?_
    refine lv_lload_n hx hb dJ_compare_11 rfl (lv_at hl 1 rfl) ?_
    refine W.lcmp hx hb dJ_compare_12 ?_
    refine lc_if_ne (tgt := 20) hx hb dJ_compare_13 (by decide) (fun c2 => ?_) (fun c2 => ?_)
    · refine lv_iconst (v := 1) hx hb dJ_compare_20 (by decide) ?_
      exact g_iret hQ hx hb hr hlk hG hK hS (by decide) (by decide) ⟨by unfold cmpL; simp_all [Int64.not_lt], rfl⟩ dJ_compare_21
    · refine lv_iconst (v := 0) hx hb dJ_compare_16 (by decide) ?_
      refine lv_goto (tgt := 21) hx hb dJ_compare_17 (by decide) ?_
      exact g_iret hQ hx hb hr hlk hG hK hS (by decide) (by decide) ⟨by unfold cmpL; simp_all [Int64.not_lt], rfl⟩ dJ_compare_21
  · refine lv_iconst (v := (-1)) hx hb dJ_compare_6 (by decide) ?_
    refine lv_goto (tgt := 21) hx hb dJ_compare_7 (by decide) ?_
    exact g_iret hQ hx hb hr hlk hG hK hS (by decide) (by decide) ⟨by unfold cmpL; simp_all [Int64.not_lt], rfl⟩ dJ_compare_21

abbrev rmP_compare : Room := { frames := 1, cells := 0, slots := 0, locals := 23 }
set_option maxRecDepth 100000 in
set_option maxHeartbeats 4000000 in
theorem kP_compare {l : Launch} {D : va_G} {k : ClassId × ClassId × ClassId} {a : Nat → Nat} {B0 : Nat} {w : Nat → va_E} (hA : gA B0 a) {n : Nat} {up : Nat → Int64} {lo : Nat → Int64} {fa : Nat → Int32} {we : Nat → Int32} {ti : Nat → Int32} {ri : Nat → Int32} {jo : Nat → Int32} (hsP : sP k a w n up lo fa we ti ri jo) (j : Nat) (i : Nat) (hj : j < 12) (hi : i < 12) : Met l yP_compare (tbw yP_compare cP_compare 3 (some .int)) rmP_compare (gPc D k a B0 w [.ref (a 1), .int (nI j), .int (nI i)]) (va_Qi (roP (rCmp up lo j i) w) (gB D k a) (gF B0)) 0 0 (gF B0) := by
  obtain ⟨hsP1, hsP2, hsP3, hsP4, hsP5, hsP6, hsP7, hsP8⟩ := hsP
  refine g_ofW (by decide) rfl (fun p e s m args below meth c Q hQ hx hb hr hlk hml hown hts hB hG hK hS ls hl => ?_)
  have hl : lv_has ls 3 [(0, .ref (a 1)), (1, .int (nI j)), (2, .int (nI i))] := hl
  have hown : s.vm.findClass RP = some m.cls := hown
  refine lv_aload_n hx hb dP_compare_0 rfl (lv_at hl 0 rfl) ?_
  refine g_get hx hb hts inP hown hK hG 1 (by decide) hsP1 rfl 0 (by decide) lkP_9 rfl dP_compare_1 ?_
  refine lv_iload_n hx hb dP_compare_4 rfl (lv_at hl 1 rfl) ?_
  refine g_lald hx hb hK hG 2 (by decide) hsP2 (j := j) (by omega) (by decide) dP_compare_5 ?_
  refine lv_aload_n hx hb dP_compare_6 rfl (lv_at hl 0 rfl) ?_
  refine g_get hx hb hts inP hown hK hG 1 (by decide) hsP1 rfl 1 (by decide) lkP_15 rfl dP_compare_7 ?_
  refine lv_iload_n hx hb dP_compare_10 rfl (lv_at hl 2 rfl) ?_
  refine g_lald hx hb hK hG 3 (by decide) hsP3 (j := i) (by omega) (by decide) dP_compare_11 ?_
  refine lv_lmul hx hb dP_compare_12 ?_
  refine lv_aload_n hx hb dP_compare_13 rfl (lv_at hl 0 rfl) ?_
  refine g_get hx hb hts inP hown hK hG 1 (by decide) hsP1 rfl 0 (by decide) lkP_9 rfl dP_compare_14 ?_
  refine lv_iload_n hx hb dP_compare_17 rfl (lv_at hl 2 rfl) ?_
  refine g_lald hx hb hK hG 2 (by decide) hsP2 (j := i) (by omega) (by decide) dP_compare_18 ?_
  refine lv_aload_n hx hb dP_compare_19 rfl (lv_at hl 0 rfl) ?_
  refine g_get hx hb hts inP hown hK hG 1 (by decide) hsP1 rfl 1 (by decide) lkP_15 rfl dP_compare_20 ?_
  refine lv_iload_n hx hb dP_compare_23 rfl (lv_at hl 1 rfl) ?_
  refine g_lald hx hb hK hG 3 (by decide) hsP3 (j := j) (by omega) (by decide) dP_compare_24 ?_
  refine lv_lmul hx hb dP_compare_25 ?_
  refine g_SiR (As := [.long ((up j) * (lo i)), .long ((up i) * (lo j))]) (rest := []) (kJ_compare hA ((up j) * (lo i)) ((up i) * (lo j))) calJ_compare cvJ_compare mlP_50 hx hb hml hown hts hB hG hK hS ⟨by decide, by decide⟩ rfl hl.1 rfl (Nat.le_of_ble_eq_true rfl) dP_compare_26 ⟨by decide, by decide⟩ (fun H locs hG hS => ?_)
  exact g_iret hQ hx hb hr hlk hG hK hS (by decide) (by decide) ⟨by first | rfl | omega | (simp_all; done) | grind, rfl⟩ dP_compare_29

abbrev rmP_isEarlier : Room := { frames := 2, cells := 0, slots := 0, locals := 45 }
set_option maxRecDepth 100000 in
set_option maxHeartbeats 4000000 in
theorem kP_isEarlier {l : Launch} {D : va_G} {k : ClassId × ClassId × ClassId} {a : Nat → Nat} {B0 : Nat} {w : Nat → va_E} (hA : gA B0 a) {n : Nat} {up : Nat → Int64} {lo : Nat → Int64} {fa : Nat → Int32} {we : Nat → Int32} {ti : Nat → Int32} {ri : Nat → Int32} {jo : Nat → Int32} (hsP : sP k a w n up lo fa we ti ri jo) (j : Nat) (i : Nat) (hj : j < 12) (hi : i < 12) : Met l yP_isEarlier (tbw yP_isEarlier cP_isEarlier 4 (some .boolean)) rmP_isEarlier (gPc D k a B0 w [.ref (a 1), .int (nI j), .int (nI i)]) (va_Qi (roP (b2i (rEar up lo j i)) w) (gB D k a) (gF B0)) 0 0 (gF B0) := by
  obtain ⟨hsP1, hsP2, hsP3, hsP4, hsP5, hsP6, hsP7, hsP8⟩ := hsP
  refine g_ofW (by decide) rfl (fun p e s m args below meth c Q hQ hx hb hr hlk hml hown hts hB hG hK hS ls hl => ?_)
  have hl : lv_has ls 4 [(0, .ref (a 1)), (1, .int (nI j)), (2, .int (nI i))] := hl
  have hown : s.vm.findClass RP = some m.cls := hown
  refine lv_aload_n hx hb dP_isEarlier_0 rfl (lv_at hl 0 rfl) ?_
  refine lv_iload_n hx hb dP_isEarlier_1 rfl (lv_at hl 1 rfl) ?_
  refine lv_iload_n hx hb dP_isEarlier_2 rfl (lv_at hl 2 rfl) ?_
  refine g_ViR (i := 1) (As := [.int (nI j), .int (nI i)]) (rest := []) (kP_compare hA ⟨hsP1, hsP2, hsP3, hsP4, hsP5, hsP6, hsP7, hsP8⟩ j i (by omega) (by omega)) calP_compare cvP_compare mlP_64 hx hb hml hown hts hB hG hK hS (by decide) hsP1 rfl ⟨by decide, by decide⟩ rfl hl.1 rfl (Nat.le_of_ble_eq_true rfl) dP_isEarlier_3 ⟨by decide, by decide⟩ (fun H locs hG hS => ?_)
  refine lv_istore_n (lv' := [(3, .int (rCmp up lo j i)), (0, .ref (a 1)), (1, .int (nI j)), (2, .int (nI i))]) hx hb dP_isEarlier_6 rfl hl (by decide) rfl (fun ls hl => ?_)
  refine lv_iload_n hx hb dP_isEarlier_7 rfl (lv_at hl 0 rfl) ?_
  refine lv_if_lt (tgt := 20) hx hb dP_isEarlier_8 (by decide) (fun c1 => ?_) (fun c1 => ?_)
  · refine lv_iconst (v := 1) hx hb dP_isEarlier_20 (by decide) ?_
    refine lv_goto (tgt := 25) hx hb dP_isEarlier_21 (by decide) ?_
    exact g_zret hQ hx hb hr hlk hG hK hS (by decide) (by decide) (by decide) ⟨(b2i_t (by first | exact Or.inl (by assumption) | exact Or.inr ⟨by assumption, by omega⟩ | (intro h9; rcases h9 with h9 | ⟨h9, h8⟩ <;> first | contradiction | omega))).symm, rfl⟩ dP_isEarlier_25
  · refine lv_iload_n hx hb dP_isEarlier_11 rfl (lv_at hl 0 rfl) ?_
    refine lv_if_ne (tgt := 24) hx hb dP_isEarlier_12 (by decide) (fun c2 => ?_) (fun c2 => ?_)
    · refine lv_iconst (v := 0) hx hb dP_isEarlier_24 (by decide) ?_
      exact g_zret hQ hx hb hr hlk hG hK hS (by decide) (by decide) (by decide) ⟨(b2i_f (by first | exact Or.inl (by assumption) | exact Or.inr ⟨by assumption, by omega⟩ | (intro h9; rcases h9 with h9 | ⟨h9, h8⟩ <;> first | contradiction | omega))).symm, rfl⟩ dP_isEarlier_25
    · refine lv_iload_n hx hb dP_isEarlier_15 rfl (lv_at hl 2 rfl) ?_
      refine lv_iload_n hx hb dP_isEarlier_16 rfl (lv_at hl 3 rfl) ?_
      refine ln_icmp_ge (x := j) (y := i) (tgt := 24) hx hb dP_isEarlier_17 (by decide) (by omega) (by omega) (fun c3 => ?_) (fun c3 => ?_)
      · refine lv_iconst (v := 0) hx hb dP_isEarlier_24 (by decide) ?_
        exact g_zret hQ hx hb hr hlk hG hK hS (by decide) (by decide) (by decide) ⟨(b2i_f (by first | exact Or.inl (by assumption) | exact Or.inr ⟨by assumption, by omega⟩ | (intro h9; rcases h9 with h9 | ⟨h9, h8⟩ <;> first | contradiction | omega))).symm, rfl⟩ dP_isEarlier_25
      · refine lv_iconst (v := 1) hx hb dP_isEarlier_20 (by decide) ?_
        refine lv_goto (tgt := 25) hx hb dP_isEarlier_21 (by decide) ?_
        exact g_zret hQ hx hb hr hlk hG hK hS (by decide) (by decide) (by decide) ⟨(b2i_t (by first | exact Or.inl (by assumption) | exact Or.inr ⟨by assumption, by omega⟩ | (intro h9; rcases h9 with h9 | ⟨h9, h8⟩ <;> first | contradiction | omega))).symm, rfl⟩ dP_isEarlier_25

abbrev rmP_solidBefore : Room := { frames := 3, cells := 0, slots := 0, locals := 68 }
set_option maxRecDepth 100000 in
set_option maxHeartbeats 4000000 in
theorem kP_solidBefore {l : Launch} {D : va_G} {k : ClassId × ClassId × ClassId} {a : Nat → Nat} {B0 : Nat} {w : Nat → va_E} (hA : gA B0 a) {n : Nat} {up : Nat → Int64} {lo : Nat → Int64} {fa : Nat → Int32} {we : Nat → Int32} {ti : Nat → Int32} {ri : Nat → Int32} {jo : Nat → Int32} (hsP : sP k a w n up lo fa we ti ri jo) (j : Nat) (hn : n ≤ 12) (hj : j < 12) : Met l yP_solidBefore (tbw yP_solidBefore cP_solidBefore 4 (some .int)) rmP_solidBefore (gPc D k a B0 w [.ref (a 1), .int (nI j)]) (va_Qi (roP (nI (rBef up lo n j)) w) (gB D k a) (gF B0)) 0 0 (gF B0) := by
  obtain ⟨hsP1, hsP2, hsP3, hsP4, hsP5, hsP6, hsP7, hsP8⟩ := hsP
  refine g_ofW (by decide) rfl (fun p e s m args below meth c Q hQ hx hb hr hlk hml hown hts hB hG hK hS ls hl => ?_)
  have hl : lv_has ls 4 [(0, .ref (a 1)), (1, .int (nI j))] := hl
  have hown : s.vm.findClass RP = some m.cls := hown
  refine lv_iconst (v := 0) hx hb dP_solidBefore_0 (by decide) ?_
  refine lv_istore_n (lv' := [(2, .int 0), (0, .ref (a 1)), (1, .int (nI j))]) hx hb dP_solidBefore_1 rfl hl (by decide) rfl (fun ls hl => ?_)
  refine lv_iconst (v := 0) hx hb dP_solidBefore_2 (by decide) ?_
  refine lv_istore_n (lv' := [(3, .int 0), (2, .int 0), (0, .ref (a 1)), (1, .int (nI j))]) hx hb dP_solidBefore_3 rfl hl (by decide) rfl (fun ls hl => ?_)
  have loop4 : ∀ (k9 : Nat) (i : Nat) (b : Nat) (hi : i + k9 = n) (hb9 : b ≤ i) (hres : b + cntF (rBefP up lo j) k9 i = rBef up lo n j) (H : Heap) (locs : List Loc) (ls : Array Slot), gW D a w H → va_S (gF B0) s.heap H locs → lv_has ls 4 [(0, .ref (a 1)), (1, .int (nI j)), (2, .int (nI b)), (3, .int (nI i))] → W p l e rmP_solidBefore s m args below meth c H locs 0 0 Q (F0 m 4 ls []) := by
    intro k9
    induction k9 using Nat.strongRecOn with
    | _ k9 ih4 =>
      intro i b hi hb9 hres H locs ls hG hS hl
      refine lv_iload_n hx hb dP_solidBefore_4 rfl (lv_at hl 3 rfl) ?_
      refine lv_aload_n hx hb dP_solidBefore_5 rfl (lv_at hl 0 rfl) ?_
      refine g_get hx hb hts inP hown hK hG 1 (by decide) hsP1 rfl 7 (by decide) lkP_35 rfl dP_solidBefore_6 ?_
      refine ln_icmp_ge (x := i) (y := n) (tgt := 38) hx hb dP_solidBefore_9 (by decide) (by omega) (by omega) (fun c1 => ?_) (fun c1 => ?_)
      · obtain rfl : k9 = 0 := by omega
        refine lv_iload_n hx hb dP_solidBefore_38 rfl (lv_at hl 2 rfl) ?_
        exact g_iret hQ hx hb hr hlk hG hK hS (by decide) (by decide) ⟨by rw [← hres]; rfl, rfl⟩ dP_solidBefore_39
      · obtain ⟨k8, rfl⟩ : ∃ z, k9 = z + 1 := ⟨k9 - 1, by omega⟩
        refine lv_aload_n hx hb dP_solidBefore_12 rfl (lv_at hl 0 rfl) ?_
        refine lv_iload_n hx hb dP_solidBefore_13 rfl (lv_at hl 3 rfl) ?_
        refine g_ViR (i := 1) (As := [.int (nI i)]) (rest := []) (kP_isTold hA ⟨hsP1, hsP2, hsP3, hsP4, hsP5, hsP6, hsP7, hsP8⟩ i (by omega)) calP_isTold cvP_isTold mlP_56 hx hb hml hown hts hB hG hK hS (by decide) hsP1 rfl ⟨by decide, by decide⟩ rfl hl.1 rfl (Nat.le_of_ble_eq_true rfl) dP_solidBefore_14 ⟨by decide, by decide⟩ (fun H locs hG hS => ?_)
        refine lb_if_eq (tgt := 32) hx hb dP_solidBefore_17 (by decide) (fun c2 => ?_) (fun c2 => ?_)
        · refine lv_iinc (v := (nI (i + 1))) (lv' := [(3, .int (nI (i + 1))), (0, .ref (a 1)), (1, .int (nI j)), (2, .int (nI b))]) hx hb dP_solidBefore_32 hl (k := 3) rfl (nI_add i 1) (by decide) rfl (fun ls hl => ?_)
          refine lv_goto (tgt := 4) hx hb dP_solidBefore_35 (by decide) ?_
          exact ih4 k8 (by omega) (i + 1) b (by omega) (by omega) (by first | (have := cntF_y (P := rBefP up lo j) (k := k8) (i := i) ⟨by assumption, by assumption⟩; omega) | (have := cntF_n (P := rBefP up lo j) (k := k8) (i := i) (fun h9 => by first | exact absurd h9.1 (by assumption) | exact absurd h9.2 (by assumption)); omega)) _ _ _ hG hS (lv_sub hl [1, 2, 3, 0] rfl)
        · refine lv_aload_n hx hb dP_solidBefore_20 rfl (lv_at hl 0 rfl) ?_
          refine lv_iload_n hx hb dP_solidBefore_21 rfl (lv_at hl 3 rfl) ?_
          refine lv_iload_n hx hb dP_solidBefore_22 rfl (lv_at hl 1 rfl) ?_
          refine g_ViR (i := 1) (As := [.int (nI i), .int (nI j)]) (rest := []) (kP_isEarlier hA ⟨hsP1, hsP2, hsP3, hsP4, hsP5, hsP6, hsP7, hsP8⟩ i j (by omega) (by omega)) calP_isEarlier cvP_isEarlier mlP_60 hx hb hml hown hts hB hG hK hS (by decide) hsP1 rfl ⟨by decide, by decide⟩ rfl hl.1 rfl (Nat.le_of_ble_eq_true rfl) dP_solidBefore_23 ⟨by decide, by decide⟩ (fun H locs hG hS => ?_)
          refine lb_if_eq (tgt := 32) hx hb dP_solidBefore_26 (by decide) (fun c3 => ?_) (fun c3 => ?_)
          · refine lv_iinc (v := (nI (i + 1))) (lv' := [(3, .int (nI (i + 1))), (0, .ref (a 1)), (1, .int (nI j)), (2, .int (nI b))]) hx hb dP_solidBefore_32 hl (k := 3) rfl (nI_add i 1) (by decide) rfl (fun ls hl => ?_)
            refine lv_goto (tgt := 4) hx hb dP_solidBefore_35 (by decide) ?_
            exact ih4 k8 (by omega) (i + 1) b (by omega) (by omega) (by first | (have := cntF_y (P := rBefP up lo j) (k := k8) (i := i) ⟨by assumption, by assumption⟩; omega) | (have := cntF_n (P := rBefP up lo j) (k := k8) (i := i) (fun h9 => by first | exact absurd h9.1 (by assumption) | exact absurd h9.2 (by assumption)); omega)) _ _ _ hG hS (lv_sub hl [1, 2, 3, 0] rfl)
          · refine lv_iinc (v := (nI (b + 1))) (lv' := [(2, .int (nI (b + 1))), (0, .ref (a 1)), (1, .int (nI j)), (3, .int (nI i))]) hx hb dP_solidBefore_29 hl (k := 2) rfl (nI_add b 1) (by decide) rfl (fun ls hl => ?_)
            refine lv_iinc (v := (nI (i + 1))) (lv' := [(3, .int (nI (i + 1))), (2, .int (nI (b + 1))), (0, .ref (a 1)), (1, .int (nI j))]) hx hb dP_solidBefore_32 hl (k := 3) rfl (nI_add i 1) (by decide) rfl (fun ls hl => ?_)
            refine lv_goto (tgt := 4) hx hb dP_solidBefore_35 (by decide) ?_
            exact ih4 k8 (by omega) (i + 1) (b + 1) (by omega) (by omega) (by first | (have := cntF_y (P := rBefP up lo j) (k := k8) (i := i) ⟨by assumption, by assumption⟩; omega) | (have := cntF_n (P := rBefP up lo j) (k := k8) (i := i) (fun h9 => by first | exact absurd h9.1 (by assumption) | exact absurd h9.2 (by assumption)); omega)) _ _ _ hG hS (lv_sub hl [2, 3, 1, 0] rfl)
  exact loop4 n 0 0 (by omega) (by omega) (Nat.zero_add _) _ _ _ hG hS (lv_sub hl [2, 3, 1, 0] rfl)

abbrev rmP_greatestNeighbour : Room := { frames := 2, cells := 0, slots := 0, locals := 45 }
set_option maxRecDepth 100000 in
set_option maxHeartbeats 4000000 in
theorem kP_greatestNeighbour {l : Launch} {D : va_G} {k : ClassId × ClassId × ClassId} {a : Nat → Nat} {B0 : Nat} {w : Nat → va_E} (hA : gA B0 a) {n : Nat} {up : Nat → Int64} {lo : Nat → Int64} {fa : Nat → Int32} {we : Nat → Int32} {ti : Nat → Int32} {ri : Nat → Int32} {jo : Nat → Int32} (hsP : sP k a w n up lo fa we ti ri jo) (j : Nat) (hn : n ≤ 12) (hj : j < 12) (hjo : ∀ z, z < 144 → narrow .boolean (.int (jo z)) = .int (jo z)) : Met l yP_greatestNeighbour (tbw yP_greatestNeighbour cP_greatestNeighbour 4 (some .int)) rmP_greatestNeighbour (gPc D k a B0 w [.ref (a 1), .int (nI j)]) (va_Qi (roP (rNbI up lo jo n j) w) (gB D k a) (gF B0)) 0 0 (gF B0) := by
  obtain ⟨hsP1, hsP2, hsP3, hsP4, hsP5, hsP6, hsP7, hsP8⟩ := hsP
  refine g_ofW (by decide) rfl (fun p e s m args below meth c Q hQ hx hb hr hlk hml hown hts hB hG hK hS ls hl => ?_)
  have hl : lv_has ls 4 [(0, .ref (a 1)), (1, .int (nI j))] := hl
  have hown : s.vm.findClass RP = some m.cls := hown
  refine lv_iload_n hx hb dP_greatestNeighbour_0 rfl (lv_at hl 1 rfl) ?_
  refine lv_istore_n (lv' := [(2, .int (nI j)), (0, .ref (a 1)), (1, .int (nI j))]) hx hb dP_greatestNeighbour_1 rfl hl (by decide) rfl (fun ls hl => ?_)
  refine lv_iconst (v := 0) hx hb dP_greatestNeighbour_2 (by decide) ?_
  refine lv_istore_n (lv' := [(3, .int 0), (2, .int (nI j)), (0, .ref (a 1)), (1, .int (nI j))]) hx hb dP_greatestNeighbour_3 rfl hl (by decide) rfl (fun ls hl => ?_)
  have loop4 : ∀ (k9 : Nat) (i : Nat) (g : Nat) (hi : i + k9 = n) (hg9 : g < 12) (hres : bstF (rNbP up lo jo j) k9 i g = rNb up lo jo n j) (H : Heap) (locs : List Loc) (ls : Array Slot), gW D a w H → va_S (gF B0) s.heap H locs → lv_has ls 4 [(0, .ref (a 1)), (1, .int (nI j)), (2, .int (nI g)), (3, .int (nI i))] → W p l e rmP_greatestNeighbour s m args below meth c H locs 0 0 Q (F0 m 4 ls []) := by
    intro k9
    induction k9 using Nat.strongRecOn with
    | _ k9 ih4 =>
      intro i g hi hg9 hres H locs ls hG hS hl
      refine lv_iload_n hx hb dP_greatestNeighbour_4 rfl (lv_at hl 3 rfl) ?_
      refine lv_aload_n hx hb dP_greatestNeighbour_5 rfl (lv_at hl 0 rfl) ?_
      refine g_get hx hb hts inP hown hK hG 1 (by decide) hsP1 rfl 7 (by decide) lkP_35 rfl dP_greatestNeighbour_6 ?_
      refine ln_icmp_ge (x := i) (y := n) (tgt := 46) hx hb dP_greatestNeighbour_9 (by decide) (by omega) (by omega) (fun c1 => ?_) (fun c1 => ?_)
      · obtain rfl : k9 = 0 := by omega
        refine lv_iload_n hx hb dP_greatestNeighbour_46 rfl (lv_at hl 2 rfl) ?_
        refine lv_iload_n hx hb dP_greatestNeighbour_47 rfl (lv_at hl 1 rfl) ?_
        refine ln_icmp_ne (x := g) (y := j) (tgt := 55) hx hb dP_greatestNeighbour_48 (by decide) (by omega) (by omega) (fun c2 => ?_) (fun c2 => ?_)
        · refine lv_iload_n hx hb dP_greatestNeighbour_55 rfl (lv_at hl 2 rfl) ?_
          exact g_iret hQ hx hb hr hlk hG hK hS (by decide) (by decide) ⟨by unfold rNbI; rw [if_neg (by rw [← hres]; show ¬ g = j; omega), ← hres]; rfl, rfl⟩ dP_greatestNeighbour_56
        · refine lv_iconst (v := (-1)) hx hb dP_greatestNeighbour_51 (by decide) ?_
          refine lv_goto (tgt := 56) hx hb dP_greatestNeighbour_52 (by decide) ?_
          exact g_iret hQ hx hb hr hlk hG hK hS (by decide) (by decide) ⟨by unfold rNbI; rw [if_pos (by rw [← hres]; show g = j; omega)], rfl⟩ dP_greatestNeighbour_56
      · obtain ⟨k8, rfl⟩ : ∃ z, k9 = z + 1 := ⟨k9 - 1, by omega⟩
        refine lv_aload_n hx hb dP_greatestNeighbour_12 rfl (lv_at hl 0 rfl) ?_
        refine lv_iload_n hx hb dP_greatestNeighbour_13 rfl (lv_at hl 1 rfl) ?_
        refine lv_iload_n hx hb dP_greatestNeighbour_14 rfl (lv_at hl 3 rfl) ?_
        refine g_ViR (i := 1) (As := [.int (nI j), .int (nI i)]) (rest := []) (kP_areJoined hA ⟨hsP1, hsP2, hsP3, hsP4, hsP5, hsP6, hsP7, hsP8⟩ j i (by omega) (by omega) (hjo _ (by omega))) calP_areJoined cvP_areJoined mlP_67 hx hb hml hown hts hB hG hK hS (by decide) hsP1 rfl ⟨by decide, by decide⟩ rfl hl.1 rfl (Nat.le_of_ble_eq_true rfl) dP_greatestNeighbour_15 ⟨by decide, by decide⟩ (fun H locs hG hS => ?_)
        refine lv_if_eq (tgt := 40) hx hb dP_greatestNeighbour_18 (by decide) (fun c3 => ?_) (fun c3 => ?_)
        · refine lv_iinc (v := (nI (i + 1))) (lv' := [(3, .int (nI (i + 1))), (0, .ref (a 1)), (1, .int (nI j)), (2, .int (nI g))]) hx hb dP_greatestNeighbour_40 hl (k := 3) rfl (nI_add i 1) (by decide) rfl (fun ls hl => ?_)
          refine lv_goto (tgt := 4) hx hb dP_greatestNeighbour_43 (by decide) ?_
          exact ih4 k8 (by omega) (i + 1) g (by omega) (by omega) (by first | exact (bstF_y (B := rNbP up lo jo j) (k := k8) (i := i) (g := g) ⟨by assumption, by assumption, by assumption⟩).symm.trans hres | exact (bstF_n (B := rNbP up lo jo j) (k := k8) (i := i) (g := g) (fun h9 => by first | exact absurd (by assumption) h9.1 | exact absurd h9.2.1 (by assumption) | exact absurd (by assumption) h9.2.2)).symm.trans hres) _ _ _ hG hS (lv_sub hl [1, 2, 3, 0] rfl)
        · refine lv_aload_n hx hb dP_greatestNeighbour_21 rfl (lv_at hl 0 rfl) ?_
          refine lv_iload_n hx hb dP_greatestNeighbour_22 rfl (lv_at hl 3 rfl) ?_
          refine g_ViR (i := 1) (As := [.int (nI i)]) (rest := []) (kP_isTold hA ⟨hsP1, hsP2, hsP3, hsP4, hsP5, hsP6, hsP7, hsP8⟩ i (by omega)) calP_isTold cvP_isTold mlP_56 hx hb hml hown hts hB hG hK hS (by decide) hsP1 rfl ⟨by decide, by decide⟩ rfl hl.1 rfl (Nat.le_of_ble_eq_true rfl) dP_greatestNeighbour_23 ⟨by decide, by decide⟩ (fun H locs hG hS => ?_)
          refine lb_if_eq (tgt := 40) hx hb dP_greatestNeighbour_26 (by decide) (fun c4 => ?_) (fun c4 => ?_)
          · refine lv_iinc (v := (nI (i + 1))) (lv' := [(3, .int (nI (i + 1))), (0, .ref (a 1)), (1, .int (nI j)), (2, .int (nI g))]) hx hb dP_greatestNeighbour_40 hl (k := 3) rfl (nI_add i 1) (by decide) rfl (fun ls hl => ?_)
            refine lv_goto (tgt := 4) hx hb dP_greatestNeighbour_43 (by decide) ?_
            exact ih4 k8 (by omega) (i + 1) g (by omega) (by omega) (by first | exact (bstF_y (B := rNbP up lo jo j) (k := k8) (i := i) (g := g) ⟨by assumption, by assumption, by assumption⟩).symm.trans hres | exact (bstF_n (B := rNbP up lo jo j) (k := k8) (i := i) (g := g) (fun h9 => by first | exact absurd (by assumption) h9.1 | exact absurd h9.2.1 (by assumption) | exact absurd (by assumption) h9.2.2)).symm.trans hres) _ _ _ hG hS (lv_sub hl [1, 2, 3, 0] rfl)
          · refine lv_aload_n hx hb dP_greatestNeighbour_29 rfl (lv_at hl 0 rfl) ?_
            refine lv_iload_n hx hb dP_greatestNeighbour_30 rfl (lv_at hl 3 rfl) ?_
            refine lv_iload_n hx hb dP_greatestNeighbour_31 rfl (lv_at hl 2 rfl) ?_
            refine g_ViR (i := 1) (As := [.int (nI i), .int (nI g)]) (rest := []) (kP_compare hA ⟨hsP1, hsP2, hsP3, hsP4, hsP5, hsP6, hsP7, hsP8⟩ i g (by omega) (by omega)) calP_compare cvP_compare mlP_64 hx hb hml hown hts hB hG hK hS (by decide) hsP1 rfl ⟨by decide, by decide⟩ rfl hl.1 rfl (Nat.le_of_ble_eq_true rfl) dP_greatestNeighbour_32 ⟨by decide, by decide⟩ (fun H locs hG hS => ?_)
            refine lv_if_le (tgt := 40) hx hb dP_greatestNeighbour_35 (by decide) (fun c5 => ?_) (fun c5 => ?_)
            · refine lv_iinc (v := (nI (i + 1))) (lv' := [(3, .int (nI (i + 1))), (0, .ref (a 1)), (1, .int (nI j)), (2, .int (nI g))]) hx hb dP_greatestNeighbour_40 hl (k := 3) rfl (nI_add i 1) (by decide) rfl (fun ls hl => ?_)
              refine lv_goto (tgt := 4) hx hb dP_greatestNeighbour_43 (by decide) ?_
              exact ih4 k8 (by omega) (i + 1) g (by omega) (by omega) (by first | exact (bstF_y (B := rNbP up lo jo j) (k := k8) (i := i) (g := g) ⟨by assumption, by assumption, by assumption⟩).symm.trans hres | exact (bstF_n (B := rNbP up lo jo j) (k := k8) (i := i) (g := g) (fun h9 => by first | exact absurd (by assumption) h9.1 | exact absurd h9.2.1 (by assumption) | exact absurd (by assumption) h9.2.2)).symm.trans hres) _ _ _ hG hS (lv_sub hl [1, 2, 3, 0] rfl)
            · refine lv_iload_n hx hb dP_greatestNeighbour_38 rfl (lv_at hl 3 rfl) ?_
              refine lv_istore_n (lv' := [(2, .int (nI i)), (0, .ref (a 1)), (1, .int (nI j)), (3, .int (nI i))]) hx hb dP_greatestNeighbour_39 rfl hl (by decide) rfl (fun ls hl => ?_)
              refine lv_iinc (v := (nI (i + 1))) (lv' := [(3, .int (nI (i + 1))), (2, .int (nI i)), (0, .ref (a 1)), (1, .int (nI j))]) hx hb dP_greatestNeighbour_40 hl (k := 3) rfl (nI_add i 1) (by decide) rfl (fun ls hl => ?_)
              refine lv_goto (tgt := 4) hx hb dP_greatestNeighbour_43 (by decide) ?_
              exact ih4 k8 (by omega) (i + 1) i (by omega) (by omega) (by first | exact (bstF_y (B := rNbP up lo jo j) (k := k8) (i := i) (g := g) ⟨by assumption, by assumption, by assumption⟩).symm.trans hres | exact (bstF_n (B := rNbP up lo jo j) (k := k8) (i := i) (g := g) (fun h9 => by first | exact absurd (by assumption) h9.1 | exact absurd h9.2.1 (by assumption) | exact absurd (by assumption) h9.2.2)).symm.trans hres) _ _ _ hG hS (lv_sub hl [2, 3, 1, 0] rfl)
  exact loop4 n 0 j (by omega) (by omega) rfl _ _ _ hG hS (lv_sub hl [2, 3, 1, 0] rfl)

abbrev rmR_isFull : Room := { frames := 0, cells := 0, slots := 0, locals := 0 }
set_option maxRecDepth 100000 in
set_option maxHeartbeats 4000000 in
theorem kR_isFull {l : Launch} {D : va_G} {k : ClassId × ClassId × ClassId} {a : Nat → Nat} {B0 : Nat} {w : Nat → va_E} (hA : gA B0 a) {nr : Nat} {ru : Nat → Int64} {rl : Nat → Int64} (hsR : sR k a w nr ru rl) (hn : nr ≤ 8) : Met l yR_isFull (tbw yR_isFull cR_isFull 1 (some .boolean)) rmR_isFull (gPc D k a B0 w [.ref (a 9)]) (va_Qi (roP (b2i (8 ≤ nr)) w) (gB D k a) (gF B0)) 0 0 (gF B0) := by
  obtain ⟨hsR9, hsR10, hsR11⟩ := hsR
  refine g_ofW (by decide) rfl (fun p e s m args below meth c Q hQ hx hb hr hlk hml hown hts hB hG hK hS ls hl => ?_)
  have hl : lv_has ls 1 [(0, .ref (a 9))] := hl
  have hown : s.vm.findClass RR = some m.cls := hown
  refine lv_aload_n hx hb dR_isFull_0 rfl (lv_at hl 0 rfl) ?_
  refine g_get hx hb hts inR hown hK hG 9 (by decide) hsR9 rfl 2 (by decide) lkR_18 rfl dR_isFull_1 ?_
  refine lv_bipush (v := 8) hx hb dR_isFull_4 (by decide) ?_
  refine ln_icmp_lt (x := nr) (y := 8) (tgt := 13) hx hb dR_isFull_6 (by decide) (by omega) (by decide) (fun c1 => ?_) (fun c1 => ?_)
  · refine lv_iconst (v := 0) hx hb dR_isFull_13 (by decide) ?_
    exact g_zret hQ hx hb hr hlk hG hK hS (by decide) (by decide) (by decide) ⟨(b2i_f (by first | rfl | omega | (simp_all; done) | grind)).symm, rfl⟩ dR_isFull_14
  · refine lv_iconst (v := 1) hx hb dR_isFull_9 (by decide) ?_
    refine lv_goto (tgt := 14) hx hb dR_isFull_10 (by decide) ?_
    exact g_zret hQ hx hb hr hlk hG hK hS (by decide) (by decide) (by decide) ⟨(b2i_t (by first | rfl | omega | (simp_all; done) | grind)).symm, rfl⟩ dR_isFull_14

abbrev rmR_addRow : Room := { frames := 0, cells := 0, slots := 0, locals := 0 }
set_option maxRecDepth 100000 in
set_option maxHeartbeats 4000000 in
theorem kR_addRow {l : Launch} {D : va_G} {k : ClassId × ClassId × ClassId} {a : Nat → Nat} {B0 : Nat} {w : Nat → va_E} (hA : gA B0 a) {nr : Nat} {ru : Nat → Int64} {rl : Nat → Int64} (hsR : sR k a w nr ru rl) (d : Int32) (h : Int32) (hn : nr < 8) : Met l yR_addRow (tbw yR_addRow cR_addRow 3 (some .int)) rmR_addRow (gPc D k a B0 w [.ref (a 9), .int d, .int h]) (va_Qi (fun r w1 => r = (nI (nr + 1)) ∧ (sR k a w1 (nr + 1) (vp_updL ru nr (d.toInt64 * h.toInt64)) (vp_updL rl nr (4 * h.toInt64 + d.toInt64))) ∧ ∀ z, z < 9 ∨ 11 < z → w1 z = w z) (gB D k a) (gF B0)) 0 0 (gF B0) := by
  obtain ⟨hsR9, hsR10, hsR11⟩ := hsR
  refine g_ofW (by decide) rfl (fun p e s m args below meth c Q hQ hx hb hr hlk hml hown hts hB hG hK hS ls hl => ?_)
  have hl : lv_has ls 3 [(0, .ref (a 9)), (1, .int d), (2, .int h)] := hl
  have hown : s.vm.findClass RR = some m.cls := hown
  have hfr0 : ∀ z, z < 9 ∨ 11 < z → w z = w z := fun _ _ => rfl
  refine lv_aload_n hx hb dR_addRow_0 rfl (lv_at hl 0 rfl) ?_
  refine g_get hx hb hts inR hown hK hG 9 (by decide) hsR9 rfl 0 (by decide) lkR_9 rfl dR_addRow_1 ?_
  refine lv_aload_n hx hb dR_addRow_4 rfl (lv_at hl 0 rfl) ?_
  refine g_get hx hb hts inR hown hK hG 9 (by decide) hsR9 rfl 2 (by decide) lkR_18 rfl dR_addRow_5 ?_
  refine lv_iload_n hx hb dR_addRow_8 rfl (lv_at hl 1 rfl) ?_
  refine lv_i2l hx hb dR_addRow_9 rfl ?_
  refine lv_iload_n hx hb dR_addRow_10 rfl (lv_at hl 2 rfl) ?_
  refine lv_i2l hx hb dR_addRow_11 rfl ?_
  refine lv_lmul hx hb dR_addRow_12 ?_
  refine g_last hx hb hK hA hG hS 10 (by decide) hsR10 (j := nr) (by omega) (by decide) dR_addRow_13 (fun H locs hG hS => ?_)
  obtain ⟨w1, hw2⟩ : ∃ zz9, zz9 = va_up w 10 (.inl (k.2.1, 8, .inr (.inl (vp_updL ru nr (d.toInt64 * h.toInt64))))) := ⟨_, rfl⟩
  replace hG : gW D a w1 H := by rw [hw2]; exact hG
  have h3 : w1 9 = .inr (2, [.ref (a 10), .ref (a 11), .int (nI nr)]) := by rw [hw2]; exact hsR9
  have h4 : w1 10 = .inl (k.2.1, 8, .inr (.inl (vp_updL ru nr (d.toInt64 * h.toInt64)))) := by rw [hw2]; rfl
  have h5 : w1 11 = .inl (k.2.1, 8, .inr (.inl rl)) := by rw [hw2]; exact hsR11
  have hfr6 : ∀ z, z < 9 ∨ 11 < z → w1 z = w z := fun z hz => by rw [hw2]; exact (va_up_ne _ _ (by omega)).trans (hfr0 z hz)
  refine lv_aload_n hx hb dR_addRow_14 rfl (lv_at hl 0 rfl) ?_
  refine g_get hx hb hts inR hown hK hG 9 (by decide) h3 rfl 1 (by decide) lkR_15 rfl dR_addRow_15 ?_
  refine lv_aload_n hx hb dR_addRow_18 rfl (lv_at hl 0 rfl) ?_
  refine g_get hx hb hts inR hown hK hG 9 (by decide) h3 rfl 2 (by decide) lkR_18 rfl dR_addRow_19 ?_
  refine lv_ldc2 (v := 4) hx hb hown (hts _ kcR_22) dR_addRow_22 ?_
  refine lv_iload_n hx hb dR_addRow_25 rfl (lv_at hl 2 rfl) ?_
  refine lv_i2l hx hb dR_addRow_26 rfl ?_
  refine lv_lmul hx hb dR_addRow_27 ?_
  refine lv_iload_n hx hb dR_addRow_28 rfl (lv_at hl 1 rfl) ?_
  refine lv_i2l hx hb dR_addRow_29 rfl ?_
  refine lv_ladd hx hb dR_addRow_30 ?_
  refine g_last hx hb hK hA hG hS 11 (by decide) h5 (j := nr) (by omega) (by decide) dR_addRow_31 (fun H locs hG hS => ?_)
  obtain ⟨w7, hw8⟩ : ∃ zz9, zz9 = va_up w1 11 (.inl (k.2.1, 8, .inr (.inl (vp_updL rl nr ((4 * h.toInt64) + d.toInt64))))) := ⟨_, rfl⟩
  replace hG : gW D a w7 H := by rw [hw8]; exact hG
  have h9 : w7 9 = .inr (2, [.ref (a 10), .ref (a 11), .int (nI nr)]) := by rw [hw8]; exact h3
  have h10 : w7 10 = .inl (k.2.1, 8, .inr (.inl (vp_updL ru nr (d.toInt64 * h.toInt64)))) := by rw [hw8]; exact h4
  have h11 : w7 11 = .inl (k.2.1, 8, .inr (.inl (vp_updL rl nr ((4 * h.toInt64) + d.toInt64)))) := by rw [hw8]; rfl
  have hfr12 : ∀ z, z < 9 ∨ 11 < z → w7 z = w z := fun z hz => by rw [hw8]; exact (va_up_ne _ _ (by omega)).trans (hfr6 z hz)
  refine lv_aload_n hx hb dR_addRow_32 rfl (lv_at hl 0 rfl) ?_
  refine lv_dup hx hb dR_addRow_33 rfl ?_
  refine g_get hx hb hts inR hown hK hG 9 (by decide) h9 rfl 2 (by decide) lkR_18 rfl dR_addRow_34 ?_
  refine lv_iconst (v := 1) hx hb dR_addRow_37 (by decide) ?_
  refine ln_iadd (x := nr) (y := 1) hx hb dR_addRow_38 ?_
  refine g_put hx hb hts inR tyR tokR nokR hown hK hA hG hS 9 (by decide) h9 rfl 2 (by decide) lkR_18 rfl (ty := .int) (by decide +kernel) rfl rfl (Nat.le_of_ble_eq_true rfl) dR_addRow_39 (fun H locs hG hS => ?_)
  obtain ⟨w13, hw14⟩ : ∃ zz9, zz9 = va_up w7 9 (.inr (2, [.ref (a 10), .ref (a 11), .int (nI (nr + 1))])) := ⟨_, rfl⟩
  replace hG : gW D a w13 H := by rw [hw14]; exact hG
  have h15 : w13 9 = .inr (2, [.ref (a 10), .ref (a 11), .int (nI (nr + 1))]) := by rw [hw14]; rfl
  have h16 : w13 10 = .inl (k.2.1, 8, .inr (.inl (vp_updL ru nr (d.toInt64 * h.toInt64)))) := by rw [hw14]; exact h10
  have h17 : w13 11 = .inl (k.2.1, 8, .inr (.inl (vp_updL rl nr ((4 * h.toInt64) + d.toInt64)))) := by rw [hw14]; exact h11
  have hfr18 : ∀ z, z < 9 ∨ 11 < z → w13 z = w z := fun z hz => by rw [hw14]; exact (va_up_ne _ _ (by omega)).trans (hfr12 z hz)
  refine lv_aload_n hx hb dR_addRow_42 rfl (lv_at hl 0 rfl) ?_
  refine g_get hx hb hts inR hown hK hG 9 (by decide) h15 rfl 2 (by decide) lkR_18 rfl dR_addRow_43 ?_
  exact g_iret hQ hx hb hr hlk hG hK hS (by decide) (by decide) ⟨by first | rfl | omega | (simp_all; done) | grind, ⟨h15, h16, h17⟩, hfr18⟩ dR_addRow_46

abbrev rmR_firstFor : Room := { frames := 0, cells := 0, slots := 0, locals := 0 }
set_option maxRecDepth 100000 in
set_option maxHeartbeats 4000000 in
theorem kR_firstFor {l : Launch} {D : va_G} {k : ClassId × ClassId × ClassId} {a : Nat → Nat} {B0 : Nat} {w : Nat → va_E} (hA : gA B0 a) {nr : Nat} {ru : Nat → Int64} {rl : Nat → Int64} (hsR : sR k a w nr ru rl) (u : Int64) (v : Int64) (hn : nr ≤ 8) : Met l yR_firstFor (tbw yR_firstFor cR_firstFor 6 (some .int)) rmR_firstFor (gPc D k a B0 w [.ref (a 9), .long u, .long v]) (va_Qi (roP (fstF (rFitP ru rl u v) nr 0) w) (gB D k a) (gF B0)) 0 0 (gF B0) := by
  obtain ⟨hsR9, hsR10, hsR11⟩ := hsR
  refine g_ofW (by decide) rfl (fun p e s m args below meth c Q hQ hx hb hr hlk hml hown hts hB hG hK hS ls hl => ?_)
  have hl : lv_has ls 6 [(0, .ref (a 9)), (1, .long u), (3, .long v)] := hl
  have hown : s.vm.findClass RR = some m.cls := hown
  refine lv_iconst (v := 0) hx hb dR_firstFor_0 (by decide) ?_
  refine lv_istore (lv' := [(5, .int 0), (0, .ref (a 9)), (1, .long u), (3, .long v)]) hx hb dR_firstFor_1 hl (by decide) rfl (fun ls hl => ?_)
  have loop3 : ∀ (k9 : Nat) (i : Nat) (hi : i + k9 = nr) (hres : fstF (rFitP ru rl u v) k9 i = fstF (rFitP ru rl u v) nr 0) (H : Heap) (locs : List Loc) (ls : Array Slot), gW D a w H → va_S (gF B0) s.heap H locs → lv_has ls 6 [(0, .ref (a 9)), (1, .long u), (3, .long v), (5, .int (nI i))] → W p l e rmR_firstFor s m args below meth c H locs 0 0 Q (F0 m 3 ls []) := by
    intro k9
    induction k9 using Nat.strongRecOn with
    | _ k9 ih3 =>
      intro i hi hres H locs ls hG hS hl
      refine lv_iload hx hb dR_firstFor_3 (lv_at hl 3 rfl) ?_
      refine lv_aload_n hx hb dR_firstFor_5 rfl (lv_at hl 0 rfl) ?_
      refine g_get hx hb hts inR hown hK hG 9 (by decide) hsR9 rfl 2 (by decide) lkR_18 rfl dR_firstFor_6 ?_
      refine ln_icmp_ge (x := i) (y := nr) (tgt := 51) hx hb dR_firstFor_9 (by decide) (by omega) (by omega) (fun c1 => ?_) (fun c1 => ?_)
      · obtain rfl : k9 = 0 := by omega
        refine lv_iconst (v := (-1)) hx hb dR_firstFor_51 (by decide) ?_
        exact g_iret hQ hx hb hr hlk hG hK hS (by decide) (by decide) ⟨by exact hres, rfl⟩ dR_firstFor_52
      · obtain ⟨k8, rfl⟩ : ∃ z, k9 = z + 1 := ⟨k9 - 1, by omega⟩
        refine lv_ldc2 (v := 5) hx hb hown (hts _ kcR_24) dR_firstFor_12 ?_
        refine lv_aload_n hx hb dR_firstFor_15 rfl (lv_at hl 0 rfl) ?_
        refine g_get hx hb hts inR hown hK hG 9 (by decide) hsR9 rfl 0 (by decide) lkR_9 rfl dR_firstFor_16 ?_
        refine lv_iload hx hb dR_firstFor_19 (lv_at hl 3 rfl) ?_
        refine g_lald hx hb hK hG 10 (by decide) hsR10 (j := i) (by omega) (by decide) dR_firstFor_21 ?_
        refine lv_lmul hx hb dR_firstFor_22 ?_
        refine lv_lload_n hx hb dR_firstFor_23 rfl (lv_at hl 2 rfl) ?_
        refine lv_lmul hx hb dR_firstFor_24 ?_
        refine lv_ldc2 (v := 6) hx hb hown (hts _ kcR_26) dR_firstFor_25 ?_
        refine lv_lload_n hx hb dR_firstFor_28 rfl (lv_at hl 1 rfl) ?_
        refine lv_lmul hx hb dR_firstFor_29 ?_
        refine lv_aload_n hx hb dR_firstFor_30 rfl (lv_at hl 0 rfl) ?_
        refine g_get hx hb hts inR hown hK hG 9 (by decide) hsR9 rfl 1 (by decide) lkR_15 rfl dR_firstFor_31 ?_
        refine lv_iload hx hb dR_firstFor_34 (lv_at hl 3 rfl) ?_
        refine g_lald hx hb hK hG 11 (by decide) hsR11 (j := i) (by omega) (by decide) dR_firstFor_36 ?_
        refine lv_lmul hx hb dR_firstFor_37 ?_
        refine W.lcmp hx hb dR_firstFor_38 ?_
        refine lc_if_lt (tgt := 45) hx hb dR_firstFor_39 (by decide) (fun c2 => ?_) (fun c2 => ?_)
        · refine lv_iinc (v := (nI (i + 1))) (lv' := [(5, .int (nI (i + 1))), (0, .ref (a 9)), (1, .long u), (3, .long v)]) hx hb dR_firstFor_45 hl (k := 3) rfl (nI_add i 1) (by decide) rfl (fun ls hl => ?_)
          refine lv_goto (tgt := 3) hx hb dR_firstFor_48 (by decide) ?_
          exact ih3 k8 (by omega) (i + 1) (by omega) ((fstF_n (P := rFitP ru rl u v) (k := k8) (i := i) (Int64.not_le.mpr (by assumption))).symm.trans hres) _ _ _ hG hS (lv_sub hl [1, 2, 3, 0] rfl)
        · refine lv_iload hx hb dR_firstFor_42 (lv_at hl 3 rfl) ?_
          exact g_iret hQ hx hb hr hlk hG hK hS (by decide) (by decide) ⟨by exact (fstF_y (P := rFitP ru rl u v) (k := k8) (i := i) (by assumption)).symm.trans hres, rfl⟩ dR_firstFor_44
  exact loop3 nr 0 (by omega) rfl _ _ _ hG hS (lv_sub hl [1, 2, 3, 0] rfl)

abbrev rmF_isFull : Room := { frames := 0, cells := 0, slots := 0, locals := 0 }
set_option maxRecDepth 100000 in
set_option maxHeartbeats 4000000 in
theorem kF_isFull {l : Launch} {D : va_G} {k : ClassId × ClassId × ClassId} {a : Nat → Nat} {B0 : Nat} {w : Nat → va_E} (hA : gA B0 a) {nf : Nat} {fo : Nat → Int32} {ff : Nat → Int32} (hsF : sF k a w nf fo ff) (hn : nf ≤ 8) : Met l yF_isFull (tbw yF_isFull cF_isFull 1 (some .boolean)) rmF_isFull (gPc D k a B0 w [.ref (a 12)]) (va_Qi (roP (b2i (8 ≤ nf)) w) (gB D k a) (gF B0)) 0 0 (gF B0) := by
  obtain ⟨hsF12, hsF13, hsF14⟩ := hsF
  refine g_ofW (by decide) rfl (fun p e s m args below meth c Q hQ hx hb hr hlk hml hown hts hB hG hK hS ls hl => ?_)
  have hl : lv_has ls 1 [(0, .ref (a 12))] := hl
  have hown : s.vm.findClass RF = some m.cls := hown
  refine lv_aload_n hx hb dF_isFull_0 rfl (lv_at hl 0 rfl) ?_
  refine g_get hx hb hts inF hown hK hG 12 (by decide) hsF12 rfl 2 (by decide) lkF_18 rfl dF_isFull_1 ?_
  refine lv_bipush (v := 8) hx hb dF_isFull_4 (by decide) ?_
  refine ln_icmp_lt (x := nf) (y := 8) (tgt := 13) hx hb dF_isFull_6 (by decide) (by omega) (by decide) (fun c1 => ?_) (fun c1 => ?_)
  · refine lv_iconst (v := 0) hx hb dF_isFull_13 (by decide) ?_
    exact g_zret hQ hx hb hr hlk hG hK hS (by decide) (by decide) (by decide) ⟨(b2i_f (by first | rfl | omega | (simp_all; done) | grind)).symm, rfl⟩ dF_isFull_14
  · refine lv_iconst (v := 1) hx hb dF_isFull_9 (by decide) ?_
    refine lv_goto (tgt := 14) hx hb dF_isFull_10 (by decide) ?_
    exact g_zret hQ hx hb hr hlk hG hK hS (by decide) (by decide) (by decide) ⟨(b2i_t (by first | rfl | omega | (simp_all; done) | grind)).symm, rfl⟩ dF_isFull_14

abbrev rmF_isEmpty : Room := { frames := 0, cells := 0, slots := 0, locals := 0 }
set_option maxRecDepth 100000 in
set_option maxHeartbeats 4000000 in
theorem kF_isEmpty {l : Launch} {D : va_G} {k : ClassId × ClassId × ClassId} {a : Nat → Nat} {B0 : Nat} {w : Nat → va_E} (hA : gA B0 a) {nf : Nat} {fo : Nat → Int32} {ff : Nat → Int32} (hsF : sF k a w nf fo ff) (hn : nf ≤ 8) : Met l yF_isEmpty (tbw yF_isEmpty cF_isEmpty 1 (some .boolean)) rmF_isEmpty (gPc D k a B0 w [.ref (a 12)]) (va_Qi (roP (b2i (nf = 0)) w) (gB D k a) (gF B0)) 0 0 (gF B0) := by
  obtain ⟨hsF12, hsF13, hsF14⟩ := hsF
  refine g_ofW (by decide) rfl (fun p e s m args below meth c Q hQ hx hb hr hlk hml hown hts hB hG hK hS ls hl => ?_)
  have hl : lv_has ls 1 [(0, .ref (a 12))] := hl
  have hown : s.vm.findClass RF = some m.cls := hown
  refine lv_aload_n hx hb dF_isEmpty_0 rfl (lv_at hl 0 rfl) ?_
  refine g_get hx hb hts inF hown hK hG 12 (by decide) hsF12 rfl 2 (by decide) lkF_18 rfl dF_isEmpty_1 ?_
  refine ln_if_ne (x := nf) (tgt := 11) hx hb dF_isEmpty_4 (by decide) (by omega) (fun c1 => ?_) (fun c1 => ?_)
  · refine lv_iconst (v := 0) hx hb dF_isEmpty_11 (by decide) ?_
    exact g_zret hQ hx hb hr hlk hG hK hS (by decide) (by decide) (by decide) ⟨(b2i_f (by first | rfl | omega | (simp_all; done) | grind)).symm, rfl⟩ dF_isEmpty_12
  · refine lv_iconst (v := 1) hx hb dF_isEmpty_7 (by decide) ?_
    refine lv_goto (tgt := 12) hx hb dF_isEmpty_8 (by decide) ?_
    exact g_zret hQ hx hb hr hlk hG hK hS (by decide) (by decide) (by decide) ⟨(b2i_t (by first | rfl | omega | (simp_all; done) | grind)).symm, rfl⟩ dF_isEmpty_12

abbrev rmF_mayFollow : Room := { frames := 0, cells := 0, slots := 0, locals := 0 }
set_option maxRecDepth 100000 in
set_option maxHeartbeats 4000000 in
theorem kF_mayFollow {l : Launch} {D : va_G} {k : ClassId × ClassId × ClassId} {a : Nat → Nat} {B0 : Nat} {w : Nat → va_E} (hA : gA B0 a) {nf : Nat} {fo : Nat → Int32} {ff : Nat → Int32} (hsF : sF k a w nf fo ff) (q : Int32) (f : Int32) (hn : nf ≤ 8) : Met l yF_mayFollow (tbw yF_mayFollow cF_mayFollow 3 (some .boolean)) rmF_mayFollow (gPc D k a B0 w [.ref (a 12), .int q, .int f]) (va_Qi (roP (b2i (nf = 0 ∨ (¬ q ≤ fo (nf - 1) ∧ ¬ f < ff (nf - 1)))) w) (gB D k a) (gF B0)) 0 0 (gF B0) := by
  obtain ⟨hsF12, hsF13, hsF14⟩ := hsF
  refine g_ofW (by decide) rfl (fun p e s m args below meth c Q hQ hx hb hr hlk hml hown hts hB hG hK hS ls hl => ?_)
  have hl : lv_has ls 3 [(0, .ref (a 12)), (1, .int q), (2, .int f)] := hl
  have hown : s.vm.findClass RF = some m.cls := hown
  refine lv_aload_n hx hb dF_mayFollow_0 rfl (lv_at hl 0 rfl) ?_
  refine g_get hx hb hts inF hown hK hG 12 (by decide) hsF12 rfl 2 (by decide) lkF_18 rfl dF_mayFollow_1 ?_
  refine ln_if_eq (x := nf) (tgt := 37) hx hb dF_mayFollow_4 (by decide) (by omega) (fun c1 => ?_) (fun c1 => ?_)
  · refine lv_iconst (v := 1) hx hb dF_mayFollow_37 (by decide) ?_
    refine lv_goto (tgt := 42) hx hb dF_mayFollow_38 (by decide) ?_
    exact g_zret hQ hx hb hr hlk hG hK hS (by decide) (by decide) (by decide) ⟨(b2i_t (by simp_all)).symm, rfl⟩ dF_mayFollow_42
  · refine lv_iload_n hx hb dF_mayFollow_7 rfl (lv_at hl 1 rfl) ?_
    refine lv_aload_n hx hb dF_mayFollow_8 rfl (lv_at hl 0 rfl) ?_
    refine g_get hx hb hts inF hown hK hG 12 (by decide) hsF12 rfl 0 (by decide) lkF_9 rfl dF_mayFollow_9 ?_
    refine lv_aload_n hx hb dF_mayFollow_12 rfl (lv_at hl 0 rfl) ?_
    refine g_get hx hb hts inF hown hK hG 12 (by decide) hsF12 rfl 2 (by decide) lkF_18 rfl dF_mayFollow_13 ?_
    refine lv_iconst (v := 1) hx hb dF_mayFollow_16 (by decide) ?_
    refine ln_isub (x := nf) (y := 1) hx hb dF_mayFollow_17 (by omega) ?_
    refine g_iald hx hb hK hG 13 (by decide) hsF13 (j := nf - 1) (by omega) (by decide) dF_mayFollow_18 ?_
    refine lv_icmp_le (tgt := 41) hx hb dF_mayFollow_19 (by decide) (fun c2 => ?_) (fun c2 => ?_)
    · refine lv_iconst (v := 0) hx hb dF_mayFollow_41 (by decide) ?_
      exact g_zret hQ hx hb hr hlk hG hK hS (by decide) (by decide) (by decide) ⟨(b2i_f (by simp_all)).symm, rfl⟩ dF_mayFollow_42
    · refine lv_iload_n hx hb dF_mayFollow_22 rfl (lv_at hl 2 rfl) ?_
      refine lv_aload_n hx hb dF_mayFollow_23 rfl (lv_at hl 0 rfl) ?_
      refine g_get hx hb hts inF hown hK hG 12 (by decide) hsF12 rfl 1 (by decide) lkF_15 rfl dF_mayFollow_24 ?_
      refine lv_aload_n hx hb dF_mayFollow_27 rfl (lv_at hl 0 rfl) ?_
      refine g_get hx hb hts inF hown hK hG 12 (by decide) hsF12 rfl 2 (by decide) lkF_18 rfl dF_mayFollow_28 ?_
      refine lv_iconst (v := 1) hx hb dF_mayFollow_31 (by decide) ?_
      refine ln_isub (x := nf) (y := 1) hx hb dF_mayFollow_32 (by omega) ?_
      refine g_iald hx hb hK hG 14 (by decide) hsF14 (j := nf - 1) (by omega) (by decide) dF_mayFollow_33 ?_
      refine lv_icmp_lt (tgt := 41) hx hb dF_mayFollow_34 (by decide) (fun c3 => ?_) (fun c3 => ?_)
      · refine lv_iconst (v := 0) hx hb dF_mayFollow_41 (by decide) ?_
        exact g_zret hQ hx hb hr hlk hG hK hS (by decide) (by decide) (by decide) ⟨(b2i_f (by simp_all)).symm, rfl⟩ dF_mayFollow_42
      · refine lv_iconst (v := 1) hx hb dF_mayFollow_37 (by decide) ?_
        refine lv_goto (tgt := 42) hx hb dF_mayFollow_38 (by decide) ?_
        exact g_zret hQ hx hb hr hlk hG hK hS (by decide) (by decide) (by decide) ⟨(b2i_t (by simp_all)).symm, rfl⟩ dF_mayFollow_42

abbrev rmF_addRow : Room := { frames := 0, cells := 0, slots := 0, locals := 0 }
set_option maxRecDepth 100000 in
set_option maxHeartbeats 4000000 in
theorem kF_addRow {l : Launch} {D : va_G} {k : ClassId × ClassId × ClassId} {a : Nat → Nat} {B0 : Nat} {w : Nat → va_E} (hA : gA B0 a) {nf : Nat} {fo : Nat → Int32} {ff : Nat → Int32} (hsF : sF k a w nf fo ff) (q : Int32) (f : Int32) (hn : nf < 8) : Met l yF_addRow (tbw yF_addRow cF_addRow 3 (some .int)) rmF_addRow (gPc D k a B0 w [.ref (a 12), .int q, .int f]) (va_Qi (fun r w1 => r = (nI (nf + 1)) ∧ (sF k a w1 (nf + 1) (upd fo nf q) (upd ff nf f)) ∧ ∀ z, z < 12 ∨ 14 < z → w1 z = w z) (gB D k a) (gF B0)) 0 0 (gF B0) := by
  obtain ⟨hsF12, hsF13, hsF14⟩ := hsF
  refine g_ofW (by decide) rfl (fun p e s m args below meth c Q hQ hx hb hr hlk hml hown hts hB hG hK hS ls hl => ?_)
  have hl : lv_has ls 3 [(0, .ref (a 12)), (1, .int q), (2, .int f)] := hl
  have hown : s.vm.findClass RF = some m.cls := hown
  have hfr0 : ∀ z, z < 12 ∨ 14 < z → w z = w z := fun _ _ => rfl
  refine lv_aload_n hx hb dF_addRow_0 rfl (lv_at hl 0 rfl) ?_
  refine g_get hx hb hts inF hown hK hG 12 (by decide) hsF12 rfl 0 (by decide) lkF_9 rfl dF_addRow_1 ?_
  refine lv_aload_n hx hb dF_addRow_4 rfl (lv_at hl 0 rfl) ?_
  refine g_get hx hb hts inF hown hK hG 12 (by decide) hsF12 rfl 2 (by decide) lkF_18 rfl dF_addRow_5 ?_
  refine lv_iload_n hx hb dF_addRow_8 rfl (lv_at hl 1 rfl) ?_
  refine g_iast hx hb hK hA hG hS 13 (by decide) hsF13 (j := nf) (by omega) (by decide) dF_addRow_9 (fun H locs hG hS => ?_)
  obtain ⟨w1, hw2⟩ : ∃ zz9, zz9 = va_up w 13 (.inl (k.1, 8, .inl (upd fo nf q))) := ⟨_, rfl⟩
  replace hG : gW D a w1 H := by rw [hw2]; exact hG
  have h3 : w1 12 = .inr (3, [.ref (a 13), .ref (a 14), .int (nI nf)]) := by rw [hw2]; exact hsF12
  have h4 : w1 13 = .inl (k.1, 8, .inl (upd fo nf q)) := by rw [hw2]; rfl
  have h5 : w1 14 = .inl (k.1, 8, .inl ff) := by rw [hw2]; exact hsF14
  have hfr6 : ∀ z, z < 12 ∨ 14 < z → w1 z = w z := fun z hz => by rw [hw2]; exact (va_up_ne _ _ (by omega)).trans (hfr0 z hz)
  refine lv_aload_n hx hb dF_addRow_10 rfl (lv_at hl 0 rfl) ?_
  refine g_get hx hb hts inF hown hK hG 12 (by decide) h3 rfl 1 (by decide) lkF_15 rfl dF_addRow_11 ?_
  refine lv_aload_n hx hb dF_addRow_14 rfl (lv_at hl 0 rfl) ?_
  refine g_get hx hb hts inF hown hK hG 12 (by decide) h3 rfl 2 (by decide) lkF_18 rfl dF_addRow_15 ?_
  refine lv_iload_n hx hb dF_addRow_18 rfl (lv_at hl 2 rfl) ?_
  refine g_iast hx hb hK hA hG hS 14 (by decide) h5 (j := nf) (by omega) (by decide) dF_addRow_19 (fun H locs hG hS => ?_)
  obtain ⟨w7, hw8⟩ : ∃ zz9, zz9 = va_up w1 14 (.inl (k.1, 8, .inl (upd ff nf f))) := ⟨_, rfl⟩
  replace hG : gW D a w7 H := by rw [hw8]; exact hG
  have h9 : w7 12 = .inr (3, [.ref (a 13), .ref (a 14), .int (nI nf)]) := by rw [hw8]; exact h3
  have h10 : w7 13 = .inl (k.1, 8, .inl (upd fo nf q)) := by rw [hw8]; exact h4
  have h11 : w7 14 = .inl (k.1, 8, .inl (upd ff nf f)) := by rw [hw8]; rfl
  have hfr12 : ∀ z, z < 12 ∨ 14 < z → w7 z = w z := fun z hz => by rw [hw8]; exact (va_up_ne _ _ (by omega)).trans (hfr6 z hz)
  refine lv_aload_n hx hb dF_addRow_20 rfl (lv_at hl 0 rfl) ?_
  refine lv_dup hx hb dF_addRow_21 rfl ?_
  refine g_get hx hb hts inF hown hK hG 12 (by decide) h9 rfl 2 (by decide) lkF_18 rfl dF_addRow_22 ?_
  refine lv_iconst (v := 1) hx hb dF_addRow_25 (by decide) ?_
  refine ln_iadd (x := nf) (y := 1) hx hb dF_addRow_26 ?_
  refine g_put hx hb hts inF tyF tokF nokF hown hK hA hG hS 12 (by decide) h9 rfl 2 (by decide) lkF_18 rfl (ty := .int) (by decide +kernel) rfl rfl (Nat.le_of_ble_eq_true rfl) dF_addRow_27 (fun H locs hG hS => ?_)
  obtain ⟨w13, hw14⟩ : ∃ zz9, zz9 = va_up w7 12 (.inr (3, [.ref (a 13), .ref (a 14), .int (nI (nf + 1))])) := ⟨_, rfl⟩
  replace hG : gW D a w13 H := by rw [hw14]; exact hG
  have h15 : w13 12 = .inr (3, [.ref (a 13), .ref (a 14), .int (nI (nf + 1))]) := by rw [hw14]; rfl
  have h16 : w13 13 = .inl (k.1, 8, .inl (upd fo nf q)) := by rw [hw14]; exact h10
  have h17 : w13 14 = .inl (k.1, 8, .inl (upd ff nf f)) := by rw [hw14]; exact h11
  have hfr18 : ∀ z, z < 12 ∨ 14 < z → w13 z = w z := fun z hz => by rw [hw14]; exact (va_up_ne _ _ (by omega)).trans (hfr12 z hz)
  refine lv_aload_n hx hb dF_addRow_30 rfl (lv_at hl 0 rfl) ?_
  refine g_get hx hb hts inF hown hK hG 12 (by decide) h15 rfl 2 (by decide) lkF_18 rfl dF_addRow_31 ?_
  exact g_iret hQ hx hb hr hlk hG hK hS (by decide) (by decide) ⟨by first | rfl | omega | (simp_all; done) | grind, ⟨h15, h16, h17⟩, hfr18⟩ dF_addRow_34

abbrev rmF_flowBetween : Room := { frames := 0, cells := 0, slots := 0, locals := 0 }
set_option maxRecDepth 100000 in
set_option maxHeartbeats 4000000 in
theorem kF_flowBetween {l : Launch} {D : va_G} {k : ClassId × ClassId × ClassId} {a : Nat → Nat} {B0 : Nat} {w : Nat → va_E} (hA : gA B0 a) {nf : Nat} {fo : Nat → Int32} {ff : Nat → Int32} (hsF : sF k a w nf fo ff) (i : Nat) (j : Nat) (q : Int32) (hi : i < 8) (hj : j < 8) : Met l yF_flowBetween (tbw yF_flowBetween cF_flowBetween 7 (some .int)) rmF_flowBetween (gPc D k a B0 w [.ref (a 12), .int (nI i), .int (nI j), .int q]) (va_Qi (roP (btw fo ff i j q) w) (gB D k a) (gF B0)) 0 0 (gF B0) := by
  obtain ⟨hsF12, hsF13, hsF14⟩ := hsF
  refine g_ofW (by decide) rfl (fun p e s m args below meth c Q hQ hx hb hr hlk hml hown hts hB hG hK hS ls hl => ?_)
  have hl : lv_has ls 7 [(0, .ref (a 12)), (1, .int (nI i)), (2, .int (nI j)), (3, .int q)] := hl
  have hown : s.vm.findClass RF = some m.cls := hown
  refine lv_aload_n hx hb dF_flowBetween_0 rfl (lv_at hl 0 rfl) ?_
  refine g_get hx hb hts inF hown hK hG 12 (by decide) hsF12 rfl 0 (by decide) lkF_9 rfl dF_flowBetween_1 ?_
  refine lv_iload_n hx hb dF_flowBetween_4 rfl (lv_at hl 2 rfl) ?_
  refine g_iald hx hb hK hG 13 (by decide) hsF13 (j := j) (by omega) (by decide) dF_flowBetween_5 ?_
  refine lv_aload_n hx hb dF_flowBetween_6 rfl (lv_at hl 0 rfl) ?_
  refine g_get hx hb hts inF hown hK hG 12 (by decide) hsF12 rfl 0 (by decide) lkF_9 rfl dF_flowBetween_7 ?_
  refine lv_iload_n hx hb dF_flowBetween_10 rfl (lv_at hl 1 rfl) ?_
  refine g_iald hx hb hK hG 13 (by decide) hsF13 (j := i) (by omega) (by decide) dF_flowBetween_11 ?_
  refine lv_isub hx hb dF_flowBetween_12 ?_
  refine lv_istore (lv' := [(4, .int ((fo j) - (fo i))), (0, .ref (a 12)), (1, .int (nI i)), (2, .int (nI j)), (3, .int q)]) hx hb dF_flowBetween_13 hl (by decide) rfl (fun ls hl => ?_)
  refine lv_iload hx hb dF_flowBetween_15 (lv_at hl 0 rfl) ?_
  refine lv_if_gt (tgt := 27) hx hb dF_flowBetween_17 (by decide) (fun c1 => ?_) (fun c1 => ?_)
  · refine lv_aload_n hx hb dF_flowBetween_27 rfl (lv_at hl 1 rfl) ?_
    refine g_get hx hb hts inF hown hK hG 12 (by decide) hsF12 rfl 1 (by decide) lkF_15 rfl dF_flowBetween_28 ?_
    refine lv_iload_n hx hb dF_flowBetween_31 rfl (lv_at hl 3 rfl) ?_
    refine g_iald hx hb hK hG 14 (by decide) hsF14 (j := j) (by omega) (by decide) dF_flowBetween_32 ?_
    refine lv_aload_n hx hb dF_flowBetween_33 rfl (lv_at hl 1 rfl) ?_
    refine g_get hx hb hts inF hown hK hG 12 (by decide) hsF12 rfl 1 (by decide) lkF_15 rfl dF_flowBetween_34 ?_
    refine lv_iload_n hx hb dF_flowBetween_37 rfl (lv_at hl 2 rfl) ?_
    refine g_iald hx hb hK hG 14 (by decide) hsF14 (j := i) (by omega) (by decide) dF_flowBetween_38 ?_
    refine lv_isub hx hb dF_flowBetween_39 ?_
    refine lv_i2l hx hb dF_flowBetween_40 rfl ?_
    refine lv_lstore (lv' := [(5, .long (((ff j) - (ff i)).toInt64)), (4, .int ((fo j) - (fo i))), (0, .ref (a 12)), (1, .int (nI i)), (2, .int (nI j)), (3, .int q)]) hx hb dF_flowBetween_41 hl (by decide) rfl (fun ls hl => ?_)
    refine lv_aload_n hx hb dF_flowBetween_43 rfl (lv_at hl 2 rfl) ?_
    refine g_get hx hb hts inF hown hK hG 12 (by decide) hsF12 rfl 1 (by decide) lkF_15 rfl dF_flowBetween_44 ?_
    refine lv_iload_n hx hb dF_flowBetween_47 rfl (lv_at hl 3 rfl) ?_
    refine g_iald hx hb hK hG 14 (by decide) hsF14 (j := i) (by omega) (by decide) dF_flowBetween_48 ?_
    refine lv_lload hx hb dF_flowBetween_49 (lv_at hl 0 rfl) ?_
    refine lv_iload_n hx hb dF_flowBetween_51 rfl (lv_at hl 5 rfl) ?_
    refine lv_aload_n hx hb dF_flowBetween_52 rfl (lv_at hl 2 rfl) ?_
    refine g_get hx hb hts inF hown hK hG 12 (by decide) hsF12 rfl 0 (by decide) lkF_9 rfl dF_flowBetween_53 ?_
    refine lv_iload_n hx hb dF_flowBetween_56 rfl (lv_at hl 3 rfl) ?_
    refine g_iald hx hb hK hG 13 (by decide) hsF13 (j := i) (by omega) (by decide) dF_flowBetween_57 ?_
    refine lv_isub hx hb dF_flowBetween_58 ?_
    refine lv_i2l hx hb dF_flowBetween_59 rfl ?_
    refine lv_lmul hx hb dF_flowBetween_60 ?_
    refine lv_iload hx hb dF_flowBetween_61 (lv_at hl 1 rfl) ?_
    refine lv_i2l hx hb dF_flowBetween_63 rfl ?_
    refine lv_ldiv hx hb dF_flowBetween_64 (i64_ne (by assumption)) ?_
    refine lv_l2i hx hb dF_flowBetween_65 rfl ?_
    refine lv_iadd hx hb dF_flowBetween_66 ?_
    exact g_iret hQ hx hb hr hlk hG hK hS (by decide) (by decide) ⟨by exact (if_pos (by assumption)).symm, rfl⟩ dF_flowBetween_67
  · refine lv_aload_n hx hb dF_flowBetween_20 rfl (lv_at hl 1 rfl) ?_
    refine g_get hx hb hts inF hown hK hG 12 (by decide) hsF12 rfl 1 (by decide) lkF_15 rfl dF_flowBetween_21 ?_
    refine lv_iload_n hx hb dF_flowBetween_24 rfl (lv_at hl 2 rfl) ?_
    refine g_iald hx hb hK hG 14 (by decide) hsF14 (j := i) (by omega) (by decide) dF_flowBetween_25 ?_
    exact g_iret hQ hx hb hr hlk hG hK hS (by decide) (by decide) ⟨by exact (if_neg (by assumption)).symm, rfl⟩ dF_flowBetween_26

abbrev rmF_flowAt : Room := { frames := 1, cells := 0, slots := 0, locals := 26 }
set_option maxRecDepth 100000 in
set_option maxHeartbeats 4000000 in
theorem kF_flowAt {l : Launch} {D : va_G} {k : ClassId × ClassId × ClassId} {a : Nat → Nat} {B0 : Nat} {w : Nat → va_E} (hA : gA B0 a) {nf : Nat} {fo : Nat → Int32} {ff : Nat → Int32} (hsF : sF k a w nf fo ff) (q : Int32) (hn : nf ≤ 8) (h0 : 0 < nf) : Met l yF_flowAt (tbw yF_flowAt cF_flowAt 4 (some .int)) rmF_flowAt (gPc D k a B0 w [.ref (a 12), .int q]) (va_Qi (roP (flAt fo ff nf q) w) (gB D k a) (gF B0)) 0 0 (gF B0) := by
  obtain ⟨hsF12, hsF13, hsF14⟩ := hsF
  refine g_ofW (by decide) rfl (fun p e s m args below meth c Q hQ hx hb hr hlk hml hown hts hB hG hK hS ls hl => ?_)
  have hl : lv_has ls 4 [(0, .ref (a 12)), (1, .int q)] := hl
  have hown : s.vm.findClass RF = some m.cls := hown
  refine lv_aload_n hx hb dF_flowAt_0 rfl (lv_at hl 0 rfl) ?_
  refine g_get hx hb hts inF hown hK hG 12 (by decide) hsF12 rfl 1 (by decide) lkF_15 rfl dF_flowAt_1 ?_
  refine lv_iconst (v := 0) hx hb dF_flowAt_4 (by decide) ?_
  refine g_iald hx hb hK hG 14 (by decide) hsF14 (j := 0) (by omega) (by decide) dF_flowAt_5 ?_
  refine lv_istore_n (lv' := [(2, .int (ff 0)), (0, .ref (a 12)), (1, .int q)]) hx hb dF_flowAt_6 rfl hl (by decide) rfl (fun ls hl => ?_)
  refine lv_iload_n hx hb dF_flowAt_7 rfl (lv_at hl 2 rfl) ?_
  refine lv_aload_n hx hb dF_flowAt_8 rfl (lv_at hl 1 rfl) ?_
  refine g_get hx hb hts inF hown hK hG 12 (by decide) hsF12 rfl 0 (by decide) lkF_9 rfl dF_flowAt_9 ?_
  refine lv_iconst (v := 0) hx hb dF_flowAt_12 (by decide) ?_
  refine g_iald hx hb hK hG 13 (by decide) hsF13 (j := 0) (by omega) (by decide) dF_flowAt_13 ?_
  refine lv_icmp_gt (tgt := 19) hx hb dF_flowAt_14 (by decide) (fun c1 => ?_) (fun c1 => ?_)
  · refine lv_iconst (v := 1) hx hb dF_flowAt_19 (by decide) ?_
    refine lv_istore_n (lv' := [(3, .int 1), (2, .int (ff 0)), (0, .ref (a 12)), (1, .int q)]) hx hb dF_flowAt_20 rfl hl (by decide) rfl (fun ls hl => ?_)
    have loop21 : ∀ (k9 : Nat) (i : Nat) (r : Int32) (hi : i + k9 = nf) (hi1 : 1 ≤ i) (hres : flF fo ff q k9 i r = flAt fo ff nf q) (H : Heap) (locs : List Loc) (ls : Array Slot), gW D a w H → va_S (gF B0) s.heap H locs → lv_has ls 4 [(0, .ref (a 12)), (1, .int q), (2, .int r), (3, .int (nI i))] → W p l e rmF_flowAt s m args below meth c H locs 0 0 Q (F0 m 21 ls []) := by
      intro k9
      induction k9 using Nat.strongRecOn with
      | _ k9 ih21 =>
        intro i r hi hi1 hres H locs ls hG hS hl
        refine lv_iload_n hx hb dF_flowAt_21 rfl (lv_at hl 3 rfl) ?_
        refine lv_aload_n hx hb dF_flowAt_22 rfl (lv_at hl 0 rfl) ?_
        refine g_get hx hb hts inF hown hK hG 12 (by decide) hsF12 rfl 2 (by decide) lkF_18 rfl dF_flowAt_23 ?_
        refine ln_icmp_ge (x := i) (y := nf) (tgt := 62) hx hb dF_flowAt_26 (by decide) (by omega) (by omega) (fun c2 => ?_) (fun c2 => ?_)
        · obtain rfl : k9 = 0 := by omega
          refine lv_iload_n hx hb dF_flowAt_62 rfl (lv_at hl 2 rfl) ?_
          exact g_iret hQ hx hb hr hlk hG hK hS (by decide) (by decide) ⟨by exact hres, rfl⟩ dF_flowAt_63
        · obtain ⟨k8, rfl⟩ : ∃ z, k9 = z + 1 := ⟨k9 - 1, by omega⟩
          refine lv_iload_n hx hb dF_flowAt_29 rfl (lv_at hl 1 rfl) ?_
          refine lv_aload_n hx hb dF_flowAt_30 rfl (lv_at hl 0 rfl) ?_
          refine g_get hx hb hts inF hown hK hG 12 (by decide) hsF12 rfl 0 (by decide) lkF_9 rfl dF_flowAt_31 ?_
          refine lv_iload_n hx hb dF_flowAt_34 rfl (lv_at hl 3 rfl) ?_
          refine g_iald hx hb hK hG 13 (by decide) hsF13 (j := i) (by omega) (by decide) dF_flowAt_35 ?_
          refine lv_icmp_ge (tgt := 49) hx hb dF_flowAt_36 (by decide) (fun c3 => ?_) (fun c3 => ?_)
          · refine lv_aload_n hx hb dF_flowAt_49 rfl (lv_at hl 0 rfl) ?_
            refine g_get hx hb hts inF hown hK hG 12 (by decide) hsF12 rfl 1 (by decide) lkF_15 rfl dF_flowAt_50 ?_
            refine lv_iload_n hx hb dF_flowAt_53 rfl (lv_at hl 3 rfl) ?_
            refine g_iald hx hb hK hG 14 (by decide) hsF14 (j := i) (by omega) (by decide) dF_flowAt_54 ?_
            refine lv_istore_n (lv' := [(2, .int (ff i)), (0, .ref (a 12)), (1, .int q), (3, .int (nI i))]) hx hb dF_flowAt_55 rfl hl (by decide) rfl (fun ls hl => ?_)
            refine lv_iinc (v := (nI (i + 1))) (lv' := [(3, .int (nI (i + 1))), (2, .int (ff i)), (0, .ref (a 12)), (1, .int q)]) hx hb dF_flowAt_56 hl (k := 3) rfl (nI_add i 1) (by decide) rfl (fun ls hl => ?_)
            refine lv_goto (tgt := 21) hx hb dF_flowAt_59 (by decide) ?_
            exact ih21 k8 (by omega) (i + 1) (ff i) (by omega) (by omega) ((flF_y (fo := fo) (ff := ff) (o := q) (k := k8) (i := i) (r := r) (by assumption)).symm.trans hres) _ _ _ hG hS (lv_sub hl [2, 3, 1, 0] rfl)
          · refine lv_aload_n hx hb dF_flowAt_39 rfl (lv_at hl 0 rfl) ?_
            refine lv_iload_n hx hb dF_flowAt_40 rfl (lv_at hl 3 rfl) ?_
            refine lv_iconst (v := 1) hx hb dF_flowAt_41 (by decide) ?_
            refine ln_isub (x := i) (y := 1) hx hb dF_flowAt_42 (by omega) ?_
            refine lv_iload_n hx hb dF_flowAt_43 rfl (lv_at hl 3 rfl) ?_
            refine lv_iload_n hx hb dF_flowAt_44 rfl (lv_at hl 1 rfl) ?_
            refine g_ViR (i := 12) (As := [.int (nI (i - 1)), .int (nI i), .int q]) (rest := []) (kF_flowBetween hA ⟨hsF12, hsF13, hsF14⟩ (i - 1) i q (by omega) (by omega)) calF_flowBetween cvF_flowBetween mlF_22 hx hb hml hown hts hB hG hK hS (by decide) hsF12 rfl ⟨by decide, by decide⟩ rfl hl.1 rfl (Nat.le_of_ble_eq_true rfl) dF_flowAt_45 ⟨by decide, by decide⟩ (fun H locs hG hS => ?_)
            exact g_iret hQ hx hb hr hlk hG hK hS (by decide) (by decide) ⟨by exact (flF_n (fo := fo) (ff := ff) (o := q) (k := k8) (i := i) (r := r) (by assumption)).symm.trans hres, rfl⟩ dF_flowAt_48
    exact loop21 (nf - 1) 1 (ff 0) (by omega) (by omega) ((if_pos (by assumption)).symm) _ _ _ hG hS (lv_sub hl [2, 3, 1, 0] rfl)
  · refine lv_iload_n hx hb dF_flowAt_17 rfl (lv_at hl 0 rfl) ?_
    exact g_iret hQ hx hb hr hlk hG hK hS (by decide) (by decide) ⟨by exact (if_neg (by assumption)).symm, rfl⟩ dF_flowAt_18

abbrev rmF_leastOpeningFor : Room := { frames := 2, cells := 0, slots := 0, locals := 49 }
set_option maxRecDepth 100000 in
set_option maxHeartbeats 4000000 in
theorem kF_leastOpeningFor {l : Launch} {D : va_G} {k : ClassId × ClassId × ClassId} {a : Nat → Nat} {B0 : Nat} {w : Nat → va_E} (hA : gA B0 a) {nf : Nat} {fo : Nat → Int32} {ff : Nat → Int32} (hsF : sF k a w nf fo ff) (q : Int32) (hn : nf ≤ 8) (h0 : 0 < nf) : Met l yF_leastOpeningFor (tbw yF_leastOpeningFor cF_leastOpeningFor 6 (some .int)) rmF_leastOpeningFor (gPc D k a B0 w [.ref (a 12), .int q]) (va_Qi (roP (nI (gaF (flAt fo ff nf) q 100 0 10000)) w) (gB D k a) (gF B0)) 0 0 (gF B0) := by
  obtain ⟨hsF12, hsF13, hsF14⟩ := hsF
  refine g_ofW (by decide) rfl (fun p e s m args below meth c Q hQ hx hb hr hlk hml hown hts hB hG hK hS ls hl => ?_)
  have hl : lv_has ls 6 [(0, .ref (a 12)), (1, .int q)] := hl
  have hown : s.vm.findClass RF = some m.cls := hown
  refine lv_iconst (v := 0) hx hb dF_leastOpeningFor_0 (by decide) ?_
  refine lv_istore_n (lv' := [(2, .int 0), (0, .ref (a 12)), (1, .int q)]) hx hb dF_leastOpeningFor_1 rfl hl (by decide) rfl (fun ls hl => ?_)
  refine lv_sipush (v := 10000) hx hb dF_leastOpeningFor_2 (by decide) ?_
  refine lv_istore_n (lv' := [(3, .int 10000), (2, .int 0), (0, .ref (a 12)), (1, .int q)]) hx hb dF_leastOpeningFor_5 rfl hl (by decide) rfl (fun ls hl => ?_)
  refine lv_iconst (v := 0) hx hb dF_leastOpeningFor_6 (by decide) ?_
  refine lv_istore (lv' := [(4, .int 0), (3, .int 10000), (2, .int 0), (0, .ref (a 12)), (1, .int q)]) hx hb dF_leastOpeningFor_7 hl (by decide) rfl (fun ls hl => ?_)
  have loop9 : ∀ (k9 : Nat) (i : Nat) (x : Nat) (y : Nat) (hi : i + k9 = 100) (hx9 : x ≤ 10000) (hy9 : y ≤ 10000) (hres : gaF (flAt fo ff nf) q k9 x y = gaF (flAt fo ff nf) q 100 0 10000) (H : Heap) (locs : List Loc) (ls : Array Slot), gW D a w H → va_S (gF B0) s.heap H locs → lv_has ls 6 [(0, .ref (a 12)), (1, .int q), (2, .int (nI x)), (3, .int (nI y)), (4, .int (nI i))] → W p l e rmF_leastOpeningFor s m args below meth c H locs 0 0 Q (F0 m 9 ls []) := by
    intro k9
    induction k9 using Nat.strongRecOn with
    | _ k9 ih9 =>
      intro i x y hi hx9 hy9 hres H locs ls hG hS hl
      refine lv_iload hx hb dF_leastOpeningFor_9 (lv_at hl 4 rfl) ?_
      refine lv_bipush (v := 100) hx hb dF_leastOpeningFor_11 (by decide) ?_
      refine ln_icmp_ge (x := i) (y := 100) (tgt := 55) hx hb dF_leastOpeningFor_13 (by decide) (by omega) (by decide) (fun c1 => ?_) (fun c1 => ?_)
      · obtain rfl : k9 = 0 := by omega
        refine lv_iload_n hx hb dF_leastOpeningFor_55 rfl (lv_at hl 2 rfl) ?_
        exact g_iret hQ hx hb hr hlk hG hK hS (by decide) (by decide) ⟨by rw [← hres]; first | rfl | rw [gaF_e (by assumption)], rfl⟩ dF_leastOpeningFor_56
      · obtain ⟨k8, rfl⟩ : ∃ z, k9 = z + 1 := ⟨k9 - 1, by omega⟩
        refine lv_iload_n hx hb dF_leastOpeningFor_16 rfl (lv_at hl 2 rfl) ?_
        refine lv_iload_n hx hb dF_leastOpeningFor_17 rfl (lv_at hl 3 rfl) ?_
        refine ln_icmp_ge (x := x) (y := y) (tgt := 55) hx hb dF_leastOpeningFor_18 (by decide) (by omega) (by omega) (fun c2 => ?_) (fun c2 => ?_)
        · refine lv_iload_n hx hb dF_leastOpeningFor_55 rfl (lv_at hl 2 rfl) ?_
          exact g_iret hQ hx hb hr hlk hG hK hS (by decide) (by decide) ⟨by rw [← hres]; first | rfl | rw [gaF_e (by assumption)], rfl⟩ dF_leastOpeningFor_56
        · refine lv_iload_n hx hb dF_leastOpeningFor_21 rfl (lv_at hl 2 rfl) ?_
          refine lv_iload_n hx hb dF_leastOpeningFor_22 rfl (lv_at hl 3 rfl) ?_
          refine ln_iadd (x := x) (y := y) hx hb dF_leastOpeningFor_23 ?_
          refine lv_iconst (v := 2) hx hb dF_leastOpeningFor_24 (by decide) ?_
          refine ln_idiv (x := x + y) (y := 2) hx hb dF_leastOpeningFor_25 (by omega) (by decide) (by decide) ?_
          refine lv_istore (lv' := [(5, .int (nI ((x + y) / 2))), (0, .ref (a 12)), (1, .int q), (2, .int (nI x)), (3, .int (nI y)), (4, .int (nI i))]) hx hb dF_leastOpeningFor_26 hl (by decide) rfl (fun ls hl => ?_)
          refine lv_aload_n hx hb dF_leastOpeningFor_28 rfl (lv_at hl 1 rfl) ?_
          refine lv_iload hx hb dF_leastOpeningFor_29 (lv_at hl 0 rfl) ?_
          refine g_ViR (i := 12) (As := [.int (nI ((x + y) / 2))]) (rest := []) (kF_flowAt hA ⟨hsF12, hsF13, hsF14⟩ (nI ((x + y) / 2)) (by omega) (by omega)) calF_flowAt cvF_flowAt mlF_26 hx hb hml hown hts hB hG hK hS (by decide) hsF12 rfl ⟨by decide, by decide⟩ rfl hl.1 rfl (Nat.le_of_ble_eq_true rfl) dF_leastOpeningFor_31 ⟨by decide, by decide⟩ (fun H locs hG hS => ?_)
          refine lv_iload_n hx hb dF_leastOpeningFor_34 rfl (lv_at hl 2 rfl) ?_
          refine lv_icmp_lt (tgt := 44) hx hb dF_leastOpeningFor_35 (by decide) (fun c3 => ?_) (fun c3 => ?_)
          · refine lv_iload hx hb dF_leastOpeningFor_44 (lv_at hl 0 rfl) ?_
            refine lv_iconst (v := 1) hx hb dF_leastOpeningFor_46 (by decide) ?_
            refine ln_iadd (x := (x + y) / 2) (y := 1) hx hb dF_leastOpeningFor_47 ?_
            refine lv_istore_n (lv' := [(2, .int (nI (((x + y) / 2) + 1))), (5, .int (nI ((x + y) / 2))), (0, .ref (a 12)), (1, .int q), (3, .int (nI y)), (4, .int (nI i))]) hx hb dF_leastOpeningFor_48 rfl hl (by decide) rfl (fun ls hl => ?_)
            refine lv_iinc (v := (nI (i + 1))) (lv' := [(4, .int (nI (i + 1))), (2, .int (nI (((x + y) / 2) + 1))), (5, .int (nI ((x + y) / 2))), (0, .ref (a 12)), (1, .int q), (3, .int (nI y))]) hx hb dF_leastOpeningFor_49 hl (k := 5) rfl (nI_add i 1) (by decide) rfl (fun ls hl => ?_)
            refine lv_goto (tgt := 9) hx hb dF_leastOpeningFor_52 (by decide) ?_
            exact ih9 k8 (by omega) (i + 1) (((x + y) / 2) + 1) y (by omega) (by omega) (by omega) (by first | exact (gaF_l (fl := flAt fo ff nf) (aim := q) (k := k8) (lo := x) (hi := y) (by omega) (by assumption)).symm.trans hres | exact (gaF_h (fl := flAt fo ff nf) (aim := q) (k := k8) (lo := x) (hi := y) (by omega) (by assumption)).symm.trans hres) _ _ _ hG hS (lv_sub hl [3, 4, 1, 5, 0] rfl)
          · refine lv_iload hx hb dF_leastOpeningFor_38 (lv_at hl 0 rfl) ?_
            refine lv_istore_n (lv' := [(3, .int (nI ((x + y) / 2))), (5, .int (nI ((x + y) / 2))), (0, .ref (a 12)), (1, .int q), (2, .int (nI x)), (4, .int (nI i))]) hx hb dF_leastOpeningFor_40 rfl hl (by decide) rfl (fun ls hl => ?_)
            refine lv_goto (tgt := 49) hx hb dF_leastOpeningFor_41 (by decide) ?_
            refine lv_iinc (v := (nI (i + 1))) (lv' := [(4, .int (nI (i + 1))), (3, .int (nI ((x + y) / 2))), (5, .int (nI ((x + y) / 2))), (0, .ref (a 12)), (1, .int q), (2, .int (nI x))]) hx hb dF_leastOpeningFor_49 hl (k := 5) rfl (nI_add i 1) (by decide) rfl (fun ls hl => ?_)
            refine lv_goto (tgt := 9) hx hb dF_leastOpeningFor_52 (by decide) ?_
            exact ih9 k8 (by omega) (i + 1) x ((x + y) / 2) (by omega) (by omega) (by omega) (by first | exact (gaF_l (fl := flAt fo ff nf) (aim := q) (k := k8) (lo := x) (hi := y) (by omega) (by assumption)).symm.trans hres | exact (gaF_h (fl := flAt fo ff nf) (aim := q) (k := k8) (lo := x) (hi := y) (by omega) (by assumption)).symm.trans hres) _ _ _ hG hS (lv_sub hl [3, 4, 5, 1, 0] rfl)
  exact loop9 100 0 0 10000 (by omega) (by omega) (by omega) rfl _ _ _ hG hS (lv_sub hl [3, 4, 2, 1, 0] rfl)

abbrev rmM_clearTo : Room := { frames := 0, cells := 0, slots := 0, locals := 0 }
set_option maxRecDepth 100000 in
set_option maxHeartbeats 4000000 in
theorem kM_clearTo {l : Launch} {D : va_G} {k : ClassId × ClassId × ClassId} {a : Nat → Nat} {B0 : Nat} {w : Nat → va_E} (hA : gA B0 a) {bw : Int32} {bd : Int32} {bu : Int32} {nt : Nat} {ns : Nat} {tw : Nat → Int32} {td : Nat → Int32} {sb : Nat → Int32} {sd : Nat → Int32} {su : Nat → Int32} (hsM : sM k a w bw bd bu nt ns tw td sb sd su) (x : Int32) (y : Int32) : Met l yM_clearTo (tbw yM_clearTo cM_clearTo 3 none) rmM_clearTo (gPc D k a B0 w [.ref (a 15), .int x, .int y]) (va_Qv (fun w1 => (sM k a w1 x y 0 0 0 tw td sb sd su) ∧ ∀ z, z < 15 ∨ 20 < z → w1 z = w z) (gB D k a) (gF B0)) 0 0 (gF B0) := by
  obtain ⟨hsM15, hsM16, hsM17, hsM18, hsM19, hsM20⟩ := hsM
  refine g_ofW (by decide) rfl (fun p e s m args below meth c Q hQ hx hb hr hlk hml hown hts hB hG hK hS ls hl => ?_)
  have hl : lv_has ls 3 [(0, .ref (a 15)), (1, .int x), (2, .int y)] := hl
  have hown : s.vm.findClass RM = some m.cls := hown
  have hfr0 : ∀ z, z < 15 ∨ 20 < z → w z = w z := fun _ _ => rfl
  refine lv_aload_n hx hb dM_clearTo_0 rfl (lv_at hl 0 rfl) ?_
  refine lv_iload_n hx hb dM_clearTo_1 rfl (lv_at hl 1 rfl) ?_
  refine g_put hx hb hts inM tyM tokM nokM hown hK hA hG hS 15 (by decide) hsM15 rfl 5 (by decide) lkM_27 rfl (ty := .int) (by decide +kernel) rfl rfl (Nat.le_of_ble_eq_true rfl) dM_clearTo_2 (fun H locs hG hS => ?_)
  obtain ⟨w1, hw2⟩ : ∃ zz9, zz9 = va_up w 15 (.inr (4, [.ref (a 16), .ref (a 17), .ref (a 18), .ref (a 19), .ref (a 20), .int x, .int bd, .int bu, .int (nI nt), .int (nI ns)])) := ⟨_, rfl⟩
  replace hG : gW D a w1 H := by rw [hw2]; exact hG
  have h3 : w1 15 = .inr (4, [.ref (a 16), .ref (a 17), .ref (a 18), .ref (a 19), .ref (a 20), .int x, .int bd, .int bu, .int (nI nt), .int (nI ns)]) := by rw [hw2]; rfl
  have h4 : w1 16 = .inl (k.1, 40, .inl tw) := by rw [hw2]; exact hsM16
  have h5 : w1 17 = .inl (k.1, 40, .inl td) := by rw [hw2]; exact hsM17
  have h6 : w1 18 = .inl (k.1, 40, .inl sb) := by rw [hw2]; exact hsM18
  have h7 : w1 19 = .inl (k.1, 40, .inl sd) := by rw [hw2]; exact hsM19
  have h8 : w1 20 = .inl (k.1, 40, .inl su) := by rw [hw2]; exact hsM20
  have hfr9 : ∀ z, z < 15 ∨ 20 < z → w1 z = w z := fun z hz => by rw [hw2]; exact (va_up_ne _ _ (by omega)).trans (hfr0 z hz)
  refine lv_aload_n hx hb dM_clearTo_5 rfl (lv_at hl 0 rfl) ?_
  refine lv_iload_n hx hb dM_clearTo_6 rfl (lv_at hl 2 rfl) ?_
  refine g_put hx hb hts inM tyM tokM nokM hown hK hA hG hS 15 (by decide) h3 rfl 6 (by decide) lkM_31 rfl (ty := .int) (by decide +kernel) rfl rfl (Nat.le_of_ble_eq_true rfl) dM_clearTo_7 (fun H locs hG hS => ?_)
  obtain ⟨w10, hw11⟩ : ∃ zz9, zz9 = va_up w1 15 (.inr (4, [.ref (a 16), .ref (a 17), .ref (a 18), .ref (a 19), .ref (a 20), .int x, .int y, .int bu, .int (nI nt), .int (nI ns)])) := ⟨_, rfl⟩
  replace hG : gW D a w10 H := by rw [hw11]; exact hG
  have h12 : w10 15 = .inr (4, [.ref (a 16), .ref (a 17), .ref (a 18), .ref (a 19), .ref (a 20), .int x, .int y, .int bu, .int (nI nt), .int (nI ns)]) := by rw [hw11]; rfl
  have h13 : w10 16 = .inl (k.1, 40, .inl tw) := by rw [hw11]; exact h4
  have h14 : w10 17 = .inl (k.1, 40, .inl td) := by rw [hw11]; exact h5
  have h15 : w10 18 = .inl (k.1, 40, .inl sb) := by rw [hw11]; exact h6
  have h16 : w10 19 = .inl (k.1, 40, .inl sd) := by rw [hw11]; exact h7
  have h17 : w10 20 = .inl (k.1, 40, .inl su) := by rw [hw11]; exact h8
  have hfr18 : ∀ z, z < 15 ∨ 20 < z → w10 z = w z := fun z hz => by rw [hw11]; exact (va_up_ne _ _ (by omega)).trans (hfr9 z hz)
  refine lv_aload_n hx hb dM_clearTo_10 rfl (lv_at hl 0 rfl) ?_
  refine lv_iconst (v := 0) hx hb dM_clearTo_11 (by decide) ?_
  refine g_put hx hb hts inM tyM tokM nokM hown hK hA hG hS 15 (by decide) h12 rfl 7 (by decide) lkM_34 rfl (ty := .int) (by decide +kernel) rfl rfl (Nat.le_of_ble_eq_true rfl) dM_clearTo_12 (fun H locs hG hS => ?_)
  obtain ⟨w19, hw20⟩ : ∃ zz9, zz9 = va_up w10 15 (.inr (4, [.ref (a 16), .ref (a 17), .ref (a 18), .ref (a 19), .ref (a 20), .int x, .int y, .int 0, .int (nI nt), .int (nI ns)])) := ⟨_, rfl⟩
  replace hG : gW D a w19 H := by rw [hw20]; exact hG
  have h21 : w19 15 = .inr (4, [.ref (a 16), .ref (a 17), .ref (a 18), .ref (a 19), .ref (a 20), .int x, .int y, .int 0, .int (nI nt), .int (nI ns)]) := by rw [hw20]; rfl
  have h22 : w19 16 = .inl (k.1, 40, .inl tw) := by rw [hw20]; exact h13
  have h23 : w19 17 = .inl (k.1, 40, .inl td) := by rw [hw20]; exact h14
  have h24 : w19 18 = .inl (k.1, 40, .inl sb) := by rw [hw20]; exact h15
  have h25 : w19 19 = .inl (k.1, 40, .inl sd) := by rw [hw20]; exact h16
  have h26 : w19 20 = .inl (k.1, 40, .inl su) := by rw [hw20]; exact h17
  have hfr27 : ∀ z, z < 15 ∨ 20 < z → w19 z = w z := fun z hz => by rw [hw20]; exact (va_up_ne _ _ (by omega)).trans (hfr18 z hz)
  refine lv_aload_n hx hb dM_clearTo_15 rfl (lv_at hl 0 rfl) ?_
  refine lv_iconst (v := 0) hx hb dM_clearTo_16 (by decide) ?_
  refine g_put hx hb hts inM tyM tokM nokM hown hK hA hG hS 15 (by decide) h21 rfl 8 (by decide) lkM_37 rfl (ty := .int) (by decide +kernel) rfl rfl (Nat.le_of_ble_eq_true rfl) dM_clearTo_17 (fun H locs hG hS => ?_)
  obtain ⟨w28, hw29⟩ : ∃ zz9, zz9 = va_up w19 15 (.inr (4, [.ref (a 16), .ref (a 17), .ref (a 18), .ref (a 19), .ref (a 20), .int x, .int y, .int 0, .int 0, .int (nI ns)])) := ⟨_, rfl⟩
  replace hG : gW D a w28 H := by rw [hw29]; exact hG
  have h30 : w28 15 = .inr (4, [.ref (a 16), .ref (a 17), .ref (a 18), .ref (a 19), .ref (a 20), .int x, .int y, .int 0, .int 0, .int (nI ns)]) := by rw [hw29]; rfl
  have h31 : w28 16 = .inl (k.1, 40, .inl tw) := by rw [hw29]; exact h22
  have h32 : w28 17 = .inl (k.1, 40, .inl td) := by rw [hw29]; exact h23
  have h33 : w28 18 = .inl (k.1, 40, .inl sb) := by rw [hw29]; exact h24
  have h34 : w28 19 = .inl (k.1, 40, .inl sd) := by rw [hw29]; exact h25
  have h35 : w28 20 = .inl (k.1, 40, .inl su) := by rw [hw29]; exact h26
  have hfr36 : ∀ z, z < 15 ∨ 20 < z → w28 z = w z := fun z hz => by rw [hw29]; exact (va_up_ne _ _ (by omega)).trans (hfr27 z hz)
  refine lv_aload_n hx hb dM_clearTo_20 rfl (lv_at hl 0 rfl) ?_
  refine lv_iconst (v := 0) hx hb dM_clearTo_21 (by decide) ?_
  refine g_put hx hb hts inM tyM tokM nokM hown hK hA hG hS 15 (by decide) h30 rfl 9 (by decide) lkM_40 rfl (ty := .int) (by decide +kernel) rfl rfl (Nat.le_of_ble_eq_true rfl) dM_clearTo_22 (fun H locs hG hS => ?_)
  obtain ⟨w37, hw38⟩ : ∃ zz9, zz9 = va_up w28 15 (.inr (4, [.ref (a 16), .ref (a 17), .ref (a 18), .ref (a 19), .ref (a 20), .int x, .int y, .int 0, .int 0, .int 0])) := ⟨_, rfl⟩
  replace hG : gW D a w37 H := by rw [hw38]; exact hG
  have h39 : w37 15 = .inr (4, [.ref (a 16), .ref (a 17), .ref (a 18), .ref (a 19), .ref (a 20), .int x, .int y, .int 0, .int 0, .int 0]) := by rw [hw38]; rfl
  have h40 : w37 16 = .inl (k.1, 40, .inl tw) := by rw [hw38]; exact h31
  have h41 : w37 17 = .inl (k.1, 40, .inl td) := by rw [hw38]; exact h32
  have h42 : w37 18 = .inl (k.1, 40, .inl sb) := by rw [hw38]; exact h33
  have h43 : w37 19 = .inl (k.1, 40, .inl sd) := by rw [hw38]; exact h34
  have h44 : w37 20 = .inl (k.1, 40, .inl su) := by rw [hw38]; exact h35
  have hfr45 : ∀ z, z < 15 ∨ 20 < z → w37 z = w z := fun z hz => by rw [hw38]; exact (va_up_ne _ _ (by omega)).trans (hfr36 z hz)
  exact g_vret hQ hx hb hr hlk hG hK hS (by decide) (by decide) ⟨⟨h39, h40, h41, h42, h43, h44⟩, hfr45⟩ dM_clearTo_25

abbrev rmM_isFull : Room := { frames := 0, cells := 0, slots := 0, locals := 0 }
set_option maxRecDepth 100000 in
set_option maxHeartbeats 4000000 in
theorem kM_isFull {l : Launch} {D : va_G} {k : ClassId × ClassId × ClassId} {a : Nat → Nat} {B0 : Nat} {w : Nat → va_E} (hA : gA B0 a) {bw : Int32} {bd : Int32} {bu : Int32} {nt : Nat} {ns : Nat} {tw : Nat → Int32} {td : Nat → Int32} {sb : Nat → Int32} {sd : Nat → Int32} {su : Nat → Int32} (hsM : sM k a w bw bd bu nt ns tw td sb sd su) (hn : nt ≤ 40) : Met l yM_isFull (tbw yM_isFull cM_isFull 1 (some .boolean)) rmM_isFull (gPc D k a B0 w [.ref (a 15)]) (va_Qi (roP (b2i (40 ≤ nt)) w) (gB D k a) (gF B0)) 0 0 (gF B0) := by
  obtain ⟨hsM15, hsM16, hsM17, hsM18, hsM19, hsM20⟩ := hsM
  refine g_ofW (by decide) rfl (fun p e s m args below meth c Q hQ hx hb hr hlk hml hown hts hB hG hK hS ls hl => ?_)
  have hl : lv_has ls 1 [(0, .ref (a 15))] := hl
  have hown : s.vm.findClass RM = some m.cls := hown
  refine lv_aload_n hx hb dM_isFull_0 rfl (lv_at hl 0 rfl) ?_
  refine g_get hx hb hts inM hown hK hG 15 (by decide) hsM15 rfl 8 (by decide) lkM_37 rfl dM_isFull_1 ?_
  refine lv_bipush (v := 40) hx hb dM_isFull_4 (by decide) ?_
  refine ln_icmp_lt (x := nt) (y := 40) (tgt := 13) hx hb dM_isFull_6 (by decide) (by omega) (by decide) (fun c1 => ?_) (fun c1 => ?_)
  · refine lv_iconst (v := 0) hx hb dM_isFull_13 (by decide) ?_
    exact g_zret hQ hx hb hr hlk hG hK hS (by decide) (by decide) (by decide) ⟨(b2i_f (by first | rfl | omega | (simp_all; done) | grind)).symm, rfl⟩ dM_isFull_14
  · refine lv_iconst (v := 1) hx hb dM_isFull_9 (by decide) ?_
    refine lv_goto (tgt := 14) hx hb dM_isFull_10 (by decide) ?_
    exact g_zret hQ hx hb hr hlk hG hK hS (by decide) (by decide) (by decide) ⟨(b2i_t (by first | rfl | omega | (simp_all; done) | grind)).symm, rfl⟩ dM_isFull_14

abbrev rmM_hasThing : Room := { frames := 0, cells := 0, slots := 0, locals := 0 }
set_option maxRecDepth 100000 in
set_option maxHeartbeats 4000000 in
theorem kM_hasThing {l : Launch} {D : va_G} {k : ClassId × ClassId × ClassId} {a : Nat → Nat} {B0 : Nat} {w : Nat → va_E} (hA : gA B0 a) {bw : Int32} {bd : Int32} {bu : Int32} {nt : Nat} {ns : Nat} {tw : Nat → Int32} {td : Nat → Int32} {sb : Nat → Int32} {sd : Nat → Int32} {su : Nat → Int32} (hsM : sM k a w bw bd bu nt ns tw td sb sd su) (q : Int32) : Met l yM_hasThing (tbw yM_hasThing cM_hasThing 2 (some .boolean)) rmM_hasThing (gPc D k a B0 w [.ref (a 15), .int q]) (va_Qi (roP (b2i (¬ q < 0 ∧ ¬ nI nt ≤ q)) w) (gB D k a) (gF B0)) 0 0 (gF B0) := by
  obtain ⟨hsM15, hsM16, hsM17, hsM18, hsM19, hsM20⟩ := hsM
  refine g_ofW (by decide) rfl (fun p e s m args below meth c Q hQ hx hb hr hlk hml hown hts hB hG hK hS ls hl => ?_)
  have hl : lv_has ls 2 [(0, .ref (a 15)), (1, .int q)] := hl
  have hown : s.vm.findClass RM = some m.cls := hown
  refine lv_iload_n hx hb dM_hasThing_0 rfl (lv_at hl 1 rfl) ?_
  refine lv_if_lt (tgt := 16) hx hb dM_hasThing_1 (by decide) (fun c1 => ?_) (fun c1 => ?_)
  · refine lv_iconst (v := 0) hx hb dM_hasThing_16 (by decide) ?_
    exact g_zret hQ hx hb hr hlk hG hK hS (by decide) (by decide) (by decide) ⟨(b2i_f (by simp_all)).symm, rfl⟩ dM_hasThing_17
  · refine lv_iload_n hx hb dM_hasThing_4 rfl (lv_at hl 1 rfl) ?_
    refine lv_aload_n hx hb dM_hasThing_5 rfl (lv_at hl 0 rfl) ?_
    refine g_get hx hb hts inM hown hK hG 15 (by decide) hsM15 rfl 8 (by decide) lkM_37 rfl dM_hasThing_6 ?_
    refine lv_icmp_ge (tgt := 16) hx hb dM_hasThing_9 (by decide) (fun c2 => ?_) (fun c2 => ?_)
    · refine lv_iconst (v := 0) hx hb dM_hasThing_16 (by decide) ?_
      exact g_zret hQ hx hb hr hlk hG hK hS (by decide) (by decide) (by decide) ⟨(b2i_f (by simp_all)).symm, rfl⟩ dM_hasThing_17
    · refine lv_iconst (v := 1) hx hb dM_hasThing_12 (by decide) ?_
      refine lv_goto (tgt := 17) hx hb dM_hasThing_13 (by decide) ?_
      exact g_zret hQ hx hb hr hlk hG hK hS (by decide) (by decide) (by decide) ⟨(b2i_t (by simp_all)).symm, rfl⟩ dM_hasThing_17

abbrev rmM_alongWidth : Room := { frames := 0, cells := 0, slots := 0, locals := 0 }
set_option maxRecDepth 100000 in
set_option maxHeartbeats 4000000 in
theorem kM_alongWidth {l : Launch} {D : va_G} {k : ClassId × ClassId × ClassId} {a : Nat → Nat} {B0 : Nat} {w : Nat → va_E} (hA : gA B0 a) {bw : Int32} {bd : Int32} {bu : Int32} {nt : Nat} {ns : Nat} {tw : Nat → Int32} {td : Nat → Int32} {sb : Nat → Int32} {sd : Nat → Int32} {su : Nat → Int32} (hsM : sM k a w bw bd bu nt ns tw td sb sd su) (j : Nat) (hj : j < 40) : Met l yM_alongWidth (tbw yM_alongWidth cM_alongWidth 2 (some .int)) rmM_alongWidth (gPc D k a B0 w [.ref (a 15), .int (nI j)]) (va_Qi (roP (tw j) w) (gB D k a) (gF B0)) 0 0 (gF B0) := by
  obtain ⟨hsM15, hsM16, hsM17, hsM18, hsM19, hsM20⟩ := hsM
  refine g_ofW (by decide) rfl (fun p e s m args below meth c Q hQ hx hb hr hlk hml hown hts hB hG hK hS ls hl => ?_)
  have hl : lv_has ls 2 [(0, .ref (a 15)), (1, .int (nI j))] := hl
  have hown : s.vm.findClass RM = some m.cls := hown
  refine lv_aload_n hx hb dM_alongWidth_0 rfl (lv_at hl 0 rfl) ?_
  refine g_get hx hb hts inM hown hK hG 15 (by decide) hsM15 rfl 0 (by decide) lkM_9 rfl dM_alongWidth_1 ?_
  refine lv_iload_n hx hb dM_alongWidth_4 rfl (lv_at hl 1 rfl) ?_
  refine g_iald hx hb hK hG 16 (by decide) hsM16 (j := j) (by omega) (by decide) dM_alongWidth_5 ?_
  exact g_iret hQ hx hb hr hlk hG hK hS (by decide) (by decide) ⟨by first | rfl | omega | (simp_all; done) | grind, rfl⟩ dM_alongWidth_6

abbrev rmM_alongDepth : Room := { frames := 0, cells := 0, slots := 0, locals := 0 }
set_option maxRecDepth 100000 in
set_option maxHeartbeats 4000000 in
theorem kM_alongDepth {l : Launch} {D : va_G} {k : ClassId × ClassId × ClassId} {a : Nat → Nat} {B0 : Nat} {w : Nat → va_E} (hA : gA B0 a) {bw : Int32} {bd : Int32} {bu : Int32} {nt : Nat} {ns : Nat} {tw : Nat → Int32} {td : Nat → Int32} {sb : Nat → Int32} {sd : Nat → Int32} {su : Nat → Int32} (hsM : sM k a w bw bd bu nt ns tw td sb sd su) (j : Nat) (hj : j < 40) : Met l yM_alongDepth (tbw yM_alongDepth cM_alongDepth 2 (some .int)) rmM_alongDepth (gPc D k a B0 w [.ref (a 15), .int (nI j)]) (va_Qi (roP (td j) w) (gB D k a) (gF B0)) 0 0 (gF B0) := by
  obtain ⟨hsM15, hsM16, hsM17, hsM18, hsM19, hsM20⟩ := hsM
  refine g_ofW (by decide) rfl (fun p e s m args below meth c Q hQ hx hb hr hlk hml hown hts hB hG hK hS ls hl => ?_)
  have hl : lv_has ls 2 [(0, .ref (a 15)), (1, .int (nI j))] := hl
  have hown : s.vm.findClass RM = some m.cls := hown
  refine lv_aload_n hx hb dM_alongDepth_0 rfl (lv_at hl 0 rfl) ?_
  refine g_get hx hb hts inM hown hK hG 15 (by decide) hsM15 rfl 1 (by decide) lkM_15 rfl dM_alongDepth_1 ?_
  refine lv_iload_n hx hb dM_alongDepth_4 rfl (lv_at hl 1 rfl) ?_
  refine g_iald hx hb hK hG 17 (by decide) hsM17 (j := j) (by omega) (by decide) dM_alongDepth_5 ?_
  exact g_iret hQ hx hb hr hlk hG hK hS (by decide) (by decide) ⟨by first | rfl | omega | (simp_all; done) | grind, rfl⟩ dM_alongDepth_6

abbrev rmM_shelfFor : Room := { frames := 0, cells := 0, slots := 0, locals := 0 }
set_option maxRecDepth 100000 in
set_option maxHeartbeats 4000000 in
theorem kM_shelfFor {l : Launch} {D : va_G} {k : ClassId × ClassId × ClassId} {a : Nat → Nat} {B0 : Nat} {w : Nat → va_E} (hA : gA B0 a) {bw : Int32} {bd : Int32} {bu : Int32} {nt : Nat} {ns : Nat} {tw : Nat → Int32} {td : Nat → Int32} {sb : Nat → Int32} {sd : Nat → Int32} {su : Nat → Int32} (hsM : sM k a w bw bd bu nt ns tw td sb sd su) (x : Int32) (y : Int32) (hn : ns ≤ 40) : Met l yM_shelfFor (tbw yM_shelfFor cM_shelfFor 4 (some .int)) rmM_shelfFor (gPc D k a B0 w [.ref (a 15), .int x, .int y]) (va_Qi (roP (shF bw bd bu ns sd su x y ns 0) w) (gB D k a) (gF B0)) 0 0 (gF B0) := by
  obtain ⟨hsM15, hsM16, hsM17, hsM18, hsM19, hsM20⟩ := hsM
  refine g_ofW (by decide) rfl (fun p e s m args below meth c Q hQ hx hb hr hlk hml hown hts hB hG hK hS ls hl => ?_)
  have hl : lv_has ls 4 [(0, .ref (a 15)), (1, .int x), (2, .int y)] := hl
  have hown : s.vm.findClass RM = some m.cls := hown
  refine lv_iconst (v := 0) hx hb dM_shelfFor_0 (by decide) ?_
  refine lv_istore_n (lv' := [(3, .int 0), (0, .ref (a 15)), (1, .int x), (2, .int y)]) hx hb dM_shelfFor_1 rfl hl (by decide) rfl (fun ls hl => ?_)
  have loop2 : ∀ (k9 : Nat) (i : Nat) (hi : i + k9 = ns) (hres : shF bw bd bu ns sd su x y k9 i = shF bw bd bu ns sd su x y ns 0) (H : Heap) (locs : List Loc) (ls : Array Slot), gW D a w H → va_S (gF B0) s.heap H locs → lv_has ls 4 [(0, .ref (a 15)), (1, .int x), (2, .int y), (3, .int (nI i))] → W p l e rmM_shelfFor s m args below meth c H locs 0 0 Q (F0 m 2 ls []) := by
    intro k9
    induction k9 using Nat.strongRecOn with
    | _ k9 ih2 =>
      intro i hi hres H locs ls hG hS hl
      refine lv_iload_n hx hb dM_shelfFor_2 rfl (lv_at hl 3 rfl) ?_
      refine lv_aload_n hx hb dM_shelfFor_3 rfl (lv_at hl 0 rfl) ?_
      refine g_get hx hb hts inM hown hK hG 15 (by decide) hsM15 rfl 9 (by decide) lkM_40 rfl dM_shelfFor_4 ?_
      refine ln_icmp_ge (x := i) (y := ns) (tgt := 43) hx hb dM_shelfFor_7 (by decide) (by omega) (by omega) (fun c1 => ?_) (fun c1 => ?_)
      · obtain rfl : k9 = 0 := by omega
        refine lv_iload_n hx hb dM_shelfFor_43 rfl (lv_at hl 1 rfl) ?_
        refine lv_aload_n hx hb dM_shelfFor_44 rfl (lv_at hl 0 rfl) ?_
        refine g_get hx hb hts inM hown hK hG 15 (by decide) hsM15 rfl 5 (by decide) lkM_27 rfl dM_shelfFor_45 ?_
        refine lv_icmp_gt (tgt := 71) hx hb dM_shelfFor_48 (by decide) (fun c2 => ?_) (fun c2 => ?_)
        · refine lv_iconst (v := (-1)) hx hb dM_shelfFor_71 (by decide) ?_
          exact g_iret hQ hx hb hr hlk hG hK hS (by decide) (by decide) ⟨by exact (shF_1 (fun h9 => by first | exact absurd (by assumption) h9.1 | exact absurd (by assumption) h9.2)).symm.trans hres, rfl⟩ dM_shelfFor_72
        · refine lv_iload_n hx hb dM_shelfFor_51 rfl (lv_at hl 2 rfl) ?_
          refine lv_aload_n hx hb dM_shelfFor_52 rfl (lv_at hl 0 rfl) ?_
          refine g_get hx hb hts inM hown hK hG 15 (by decide) hsM15 rfl 6 (by decide) lkM_31 rfl dM_shelfFor_53 ?_
          refine lv_aload_n hx hb dM_shelfFor_56 rfl (lv_at hl 0 rfl) ?_
          refine g_get hx hb hts inM hown hK hG 15 (by decide) hsM15 rfl 7 (by decide) lkM_34 rfl dM_shelfFor_57 ?_
          refine lv_isub hx hb dM_shelfFor_60 ?_
          refine lv_icmp_gt (tgt := 71) hx hb dM_shelfFor_61 (by decide) (fun c3 => ?_) (fun c3 => ?_)
          · refine lv_iconst (v := (-1)) hx hb dM_shelfFor_71 (by decide) ?_
            exact g_iret hQ hx hb hr hlk hG hK hS (by decide) (by decide) ⟨by exact (shF_1 (fun h9 => by first | exact absurd (by assumption) h9.1 | exact absurd (by assumption) h9.2)).symm.trans hres, rfl⟩ dM_shelfFor_72
          · refine lv_aload_n hx hb dM_shelfFor_64 rfl (lv_at hl 0 rfl) ?_
            refine g_get hx hb hts inM hown hK hG 15 (by decide) hsM15 rfl 9 (by decide) lkM_40 rfl dM_shelfFor_65 ?_
            refine lv_goto (tgt := 72) hx hb dM_shelfFor_68 (by decide) ?_
            exact g_iret hQ hx hb hr hlk hG hK hS (by decide) (by decide) ⟨by exact (shF_0 ⟨by assumption, by assumption⟩).symm.trans hres, rfl⟩ dM_shelfFor_72
      · obtain ⟨k8, rfl⟩ : ∃ z, k9 = z + 1 := ⟨k9 - 1, by omega⟩
        refine lv_iload_n hx hb dM_shelfFor_10 rfl (lv_at hl 2 rfl) ?_
        refine lv_aload_n hx hb dM_shelfFor_11 rfl (lv_at hl 0 rfl) ?_
        refine g_get hx hb hts inM hown hK hG 15 (by decide) hsM15 rfl 3 (by decide) lkM_21 rfl dM_shelfFor_12 ?_
        refine lv_iload_n hx hb dM_shelfFor_15 rfl (lv_at hl 3 rfl) ?_
        refine g_iald hx hb hK hG 19 (by decide) hsM19 (j := i) (by omega) (by decide) dM_shelfFor_16 ?_
        refine lv_icmp_gt (tgt := 37) hx hb dM_shelfFor_17 (by decide) (fun c4 => ?_) (fun c4 => ?_)
        · refine lv_iinc (v := (nI (i + 1))) (lv' := [(3, .int (nI (i + 1))), (0, .ref (a 15)), (1, .int x), (2, .int y)]) hx hb dM_shelfFor_37 hl (k := 3) rfl (nI_add i 1) (by decide) rfl (fun ls hl => ?_)
          refine lv_goto (tgt := 2) hx hb dM_shelfFor_40 (by decide) ?_
          exact ih2 k8 (by omega) (i + 1) (by omega) ((shF_n (k := k8) (fun h9 => by first | exact absurd (by assumption) h9.1 | exact absurd (by assumption) h9.2)).symm.trans hres) _ _ _ hG hS (lv_sub hl [1, 2, 3, 0] rfl)
        · refine lv_iload_n hx hb dM_shelfFor_20 rfl (lv_at hl 1 rfl) ?_
          refine lv_aload_n hx hb dM_shelfFor_21 rfl (lv_at hl 0 rfl) ?_
          refine g_get hx hb hts inM hown hK hG 15 (by decide) hsM15 rfl 5 (by decide) lkM_27 rfl dM_shelfFor_22 ?_
          refine lv_aload_n hx hb dM_shelfFor_25 rfl (lv_at hl 0 rfl) ?_
          refine g_get hx hb hts inM hown hK hG 15 (by decide) hsM15 rfl 4 (by decide) lkM_24 rfl dM_shelfFor_26 ?_
          refine lv_iload_n hx hb dM_shelfFor_29 rfl (lv_at hl 3 rfl) ?_
          refine g_iald hx hb hK hG 20 (by decide) hsM20 (j := i) (by omega) (by decide) dM_shelfFor_30 ?_
          refine lv_isub hx hb dM_shelfFor_31 ?_
          refine lv_icmp_gt (tgt := 37) hx hb dM_shelfFor_32 (by decide) (fun c5 => ?_) (fun c5 => ?_)
          · refine lv_iinc (v := (nI (i + 1))) (lv' := [(3, .int (nI (i + 1))), (0, .ref (a 15)), (1, .int x), (2, .int y)]) hx hb dM_shelfFor_37 hl (k := 3) rfl (nI_add i 1) (by decide) rfl (fun ls hl => ?_)
            refine lv_goto (tgt := 2) hx hb dM_shelfFor_40 (by decide) ?_
            exact ih2 k8 (by omega) (i + 1) (by omega) ((shF_n (k := k8) (fun h9 => by first | exact absurd (by assumption) h9.1 | exact absurd (by assumption) h9.2)).symm.trans hres) _ _ _ hG hS (lv_sub hl [1, 2, 3, 0] rfl)
          · refine lv_iload_n hx hb dM_shelfFor_35 rfl (lv_at hl 3 rfl) ?_
            exact g_iret hQ hx hb hr hlk hG hK hS (by decide) (by decide) ⟨by exact (shF_y (k := k8) ⟨by assumption, by assumption⟩).symm.trans hres, rfl⟩ dM_shelfFor_36
  exact loop2 ns 0 (by omega) rfl _ _ _ hG hS (lv_sub hl [1, 2, 3, 0] rfl)

abbrev rmM_openShelf : Room := { frames := 0, cells := 0, slots := 0, locals := 0 }
set_option maxRecDepth 100000 in
set_option maxHeartbeats 4000000 in
theorem kM_openShelf {l : Launch} {D : va_G} {k : ClassId × ClassId × ClassId} {a : Nat → Nat} {B0 : Nat} {w : Nat → va_E} (hA : gA B0 a) {bw : Int32} {bd : Int32} {bu : Int32} {nt : Nat} {ns : Nat} {tw : Nat → Int32} {td : Nat → Int32} {sb : Nat → Int32} {sd : Nat → Int32} {su : Nat → Int32} (hsM : sM k a w bw bd bu nt ns tw td sb sd su) (y : Int32) (hn : ns < 40) : Met l yM_openShelf (tbw yM_openShelf cM_openShelf 2 none) rmM_openShelf (gPc D k a B0 w [.ref (a 15), .int y]) (va_Qv (fun w1 => (sM k a w1 bw bd (bu + y) nt (ns + 1) tw td (upd sb ns bu) (upd sd ns y) (upd su ns 0)) ∧ ∀ z, z < 15 ∨ 20 < z → w1 z = w z) (gB D k a) (gF B0)) 0 0 (gF B0) := by
  obtain ⟨hsM15, hsM16, hsM17, hsM18, hsM19, hsM20⟩ := hsM
  refine g_ofW (by decide) rfl (fun p e s m args below meth c Q hQ hx hb hr hlk hml hown hts hB hG hK hS ls hl => ?_)
  have hl : lv_has ls 2 [(0, .ref (a 15)), (1, .int y)] := hl
  have hown : s.vm.findClass RM = some m.cls := hown
  have hfr0 : ∀ z, z < 15 ∨ 20 < z → w z = w z := fun _ _ => rfl
  refine lv_aload_n hx hb dM_openShelf_0 rfl (lv_at hl 0 rfl) ?_
  refine g_get hx hb hts inM hown hK hG 15 (by decide) hsM15 rfl 2 (by decide) lkM_18 rfl dM_openShelf_1 ?_
  refine lv_aload_n hx hb dM_openShelf_4 rfl (lv_at hl 0 rfl) ?_
  refine g_get hx hb hts inM hown hK hG 15 (by decide) hsM15 rfl 9 (by decide) lkM_40 rfl dM_openShelf_5 ?_
  refine lv_aload_n hx hb dM_openShelf_8 rfl (lv_at hl 0 rfl) ?_
  refine g_get hx hb hts inM hown hK hG 15 (by decide) hsM15 rfl 7 (by decide) lkM_34 rfl dM_openShelf_9 ?_
  refine g_iast hx hb hK hA hG hS 18 (by decide) hsM18 (j := ns) (by omega) (by decide) dM_openShelf_12 (fun H locs hG hS => ?_)
  obtain ⟨w1, hw2⟩ : ∃ zz9, zz9 = va_up w 18 (.inl (k.1, 40, .inl (upd sb ns bu))) := ⟨_, rfl⟩
  replace hG : gW D a w1 H := by rw [hw2]; exact hG
  have h3 : w1 15 = .inr (4, [.ref (a 16), .ref (a 17), .ref (a 18), .ref (a 19), .ref (a 20), .int bw, .int bd, .int bu, .int (nI nt), .int (nI ns)]) := by rw [hw2]; exact hsM15
  have h4 : w1 16 = .inl (k.1, 40, .inl tw) := by rw [hw2]; exact hsM16
  have h5 : w1 17 = .inl (k.1, 40, .inl td) := by rw [hw2]; exact hsM17
  have h6 : w1 18 = .inl (k.1, 40, .inl (upd sb ns bu)) := by rw [hw2]; rfl
  have h7 : w1 19 = .inl (k.1, 40, .inl sd) := by rw [hw2]; exact hsM19
  have h8 : w1 20 = .inl (k.1, 40, .inl su) := by rw [hw2]; exact hsM20
  have hfr9 : ∀ z, z < 15 ∨ 20 < z → w1 z = w z := fun z hz => by rw [hw2]; exact (va_up_ne _ _ (by omega)).trans (hfr0 z hz)
  refine lv_aload_n hx hb dM_openShelf_13 rfl (lv_at hl 0 rfl) ?_
  refine g_get hx hb hts inM hown hK hG 15 (by decide) h3 rfl 3 (by decide) lkM_21 rfl dM_openShelf_14 ?_
  refine lv_aload_n hx hb dM_openShelf_17 rfl (lv_at hl 0 rfl) ?_
  refine g_get hx hb hts inM hown hK hG 15 (by decide) h3 rfl 9 (by decide) lkM_40 rfl dM_openShelf_18 ?_
  refine lv_iload_n hx hb dM_openShelf_21 rfl (lv_at hl 1 rfl) ?_
  refine g_iast hx hb hK hA hG hS 19 (by decide) h7 (j := ns) (by omega) (by decide) dM_openShelf_22 (fun H locs hG hS => ?_)
  obtain ⟨w10, hw11⟩ : ∃ zz9, zz9 = va_up w1 19 (.inl (k.1, 40, .inl (upd sd ns y))) := ⟨_, rfl⟩
  replace hG : gW D a w10 H := by rw [hw11]; exact hG
  have h12 : w10 15 = .inr (4, [.ref (a 16), .ref (a 17), .ref (a 18), .ref (a 19), .ref (a 20), .int bw, .int bd, .int bu, .int (nI nt), .int (nI ns)]) := by rw [hw11]; exact h3
  have h13 : w10 16 = .inl (k.1, 40, .inl tw) := by rw [hw11]; exact h4
  have h14 : w10 17 = .inl (k.1, 40, .inl td) := by rw [hw11]; exact h5
  have h15 : w10 18 = .inl (k.1, 40, .inl (upd sb ns bu)) := by rw [hw11]; exact h6
  have h16 : w10 19 = .inl (k.1, 40, .inl (upd sd ns y)) := by rw [hw11]; rfl
  have h17 : w10 20 = .inl (k.1, 40, .inl su) := by rw [hw11]; exact h8
  have hfr18 : ∀ z, z < 15 ∨ 20 < z → w10 z = w z := fun z hz => by rw [hw11]; exact (va_up_ne _ _ (by omega)).trans (hfr9 z hz)
  refine lv_aload_n hx hb dM_openShelf_23 rfl (lv_at hl 0 rfl) ?_
  refine g_get hx hb hts inM hown hK hG 15 (by decide) h12 rfl 4 (by decide) lkM_24 rfl dM_openShelf_24 ?_
  refine lv_aload_n hx hb dM_openShelf_27 rfl (lv_at hl 0 rfl) ?_
  refine g_get hx hb hts inM hown hK hG 15 (by decide) h12 rfl 9 (by decide) lkM_40 rfl dM_openShelf_28 ?_
  refine lv_iconst (v := 0) hx hb dM_openShelf_31 (by decide) ?_
  refine g_iast hx hb hK hA hG hS 20 (by decide) h17 (j := ns) (by omega) (by decide) dM_openShelf_32 (fun H locs hG hS => ?_)
  obtain ⟨w19, hw20⟩ : ∃ zz9, zz9 = va_up w10 20 (.inl (k.1, 40, .inl (upd su ns 0))) := ⟨_, rfl⟩
  replace hG : gW D a w19 H := by rw [hw20]; exact hG
  have h21 : w19 15 = .inr (4, [.ref (a 16), .ref (a 17), .ref (a 18), .ref (a 19), .ref (a 20), .int bw, .int bd, .int bu, .int (nI nt), .int (nI ns)]) := by rw [hw20]; exact h12
  have h22 : w19 16 = .inl (k.1, 40, .inl tw) := by rw [hw20]; exact h13
  have h23 : w19 17 = .inl (k.1, 40, .inl td) := by rw [hw20]; exact h14
  have h24 : w19 18 = .inl (k.1, 40, .inl (upd sb ns bu)) := by rw [hw20]; exact h15
  have h25 : w19 19 = .inl (k.1, 40, .inl (upd sd ns y)) := by rw [hw20]; exact h16
  have h26 : w19 20 = .inl (k.1, 40, .inl (upd su ns 0)) := by rw [hw20]; rfl
  have hfr27 : ∀ z, z < 15 ∨ 20 < z → w19 z = w z := fun z hz => by rw [hw20]; exact (va_up_ne _ _ (by omega)).trans (hfr18 z hz)
  refine lv_aload_n hx hb dM_openShelf_33 rfl (lv_at hl 0 rfl) ?_
  refine lv_dup hx hb dM_openShelf_34 rfl ?_
  refine g_get hx hb hts inM hown hK hG 15 (by decide) h21 rfl 7 (by decide) lkM_34 rfl dM_openShelf_35 ?_
  refine lv_iload_n hx hb dM_openShelf_38 rfl (lv_at hl 1 rfl) ?_
  refine lv_iadd hx hb dM_openShelf_39 ?_
  refine g_put hx hb hts inM tyM tokM nokM hown hK hA hG hS 15 (by decide) h21 rfl 7 (by decide) lkM_34 rfl (ty := .int) (by decide +kernel) rfl rfl (Nat.le_of_ble_eq_true rfl) dM_openShelf_40 (fun H locs hG hS => ?_)
  obtain ⟨w28, hw29⟩ : ∃ zz9, zz9 = va_up w19 15 (.inr (4, [.ref (a 16), .ref (a 17), .ref (a 18), .ref (a 19), .ref (a 20), .int bw, .int bd, .int (bu + y), .int (nI nt), .int (nI ns)])) := ⟨_, rfl⟩
  replace hG : gW D a w28 H := by rw [hw29]; exact hG
  have h30 : w28 15 = .inr (4, [.ref (a 16), .ref (a 17), .ref (a 18), .ref (a 19), .ref (a 20), .int bw, .int bd, .int (bu + y), .int (nI nt), .int (nI ns)]) := by rw [hw29]; rfl
  have h31 : w28 16 = .inl (k.1, 40, .inl tw) := by rw [hw29]; exact h22
  have h32 : w28 17 = .inl (k.1, 40, .inl td) := by rw [hw29]; exact h23
  have h33 : w28 18 = .inl (k.1, 40, .inl (upd sb ns bu)) := by rw [hw29]; exact h24
  have h34 : w28 19 = .inl (k.1, 40, .inl (upd sd ns y)) := by rw [hw29]; exact h25
  have h35 : w28 20 = .inl (k.1, 40, .inl (upd su ns 0)) := by rw [hw29]; exact h26
  have hfr36 : ∀ z, z < 15 ∨ 20 < z → w28 z = w z := fun z hz => by rw [hw29]; exact (va_up_ne _ _ (by omega)).trans (hfr27 z hz)
  refine lv_aload_n hx hb dM_openShelf_43 rfl (lv_at hl 0 rfl) ?_
  refine lv_dup hx hb dM_openShelf_44 rfl ?_
  refine g_get hx hb hts inM hown hK hG 15 (by decide) h30 rfl 9 (by decide) lkM_40 rfl dM_openShelf_45 ?_
  refine lv_iconst (v := 1) hx hb dM_openShelf_48 (by decide) ?_
  refine ln_iadd (x := ns) (y := 1) hx hb dM_openShelf_49 ?_
  refine g_put hx hb hts inM tyM tokM nokM hown hK hA hG hS 15 (by decide) h30 rfl 9 (by decide) lkM_40 rfl (ty := .int) (by decide +kernel) rfl rfl (Nat.le_of_ble_eq_true rfl) dM_openShelf_50 (fun H locs hG hS => ?_)
  obtain ⟨w37, hw38⟩ : ∃ zz9, zz9 = va_up w28 15 (.inr (4, [.ref (a 16), .ref (a 17), .ref (a 18), .ref (a 19), .ref (a 20), .int bw, .int bd, .int (bu + y), .int (nI nt), .int (nI (ns + 1))])) := ⟨_, rfl⟩
  replace hG : gW D a w37 H := by rw [hw38]; exact hG
  have h39 : w37 15 = .inr (4, [.ref (a 16), .ref (a 17), .ref (a 18), .ref (a 19), .ref (a 20), .int bw, .int bd, .int (bu + y), .int (nI nt), .int (nI (ns + 1))]) := by rw [hw38]; rfl
  have h40 : w37 16 = .inl (k.1, 40, .inl tw) := by rw [hw38]; exact h31
  have h41 : w37 17 = .inl (k.1, 40, .inl td) := by rw [hw38]; exact h32
  have h42 : w37 18 = .inl (k.1, 40, .inl (upd sb ns bu)) := by rw [hw38]; exact h33
  have h43 : w37 19 = .inl (k.1, 40, .inl (upd sd ns y)) := by rw [hw38]; exact h34
  have h44 : w37 20 = .inl (k.1, 40, .inl (upd su ns 0)) := by rw [hw38]; exact h35
  have hfr45 : ∀ z, z < 15 ∨ 20 < z → w37 z = w z := fun z hz => by rw [hw38]; exact (va_up_ne _ _ (by omega)).trans (hfr36 z hz)
  exact g_vret hQ hx hb hr hlk hG hK hS (by decide) (by decide) ⟨⟨h39, h40, h41, h42, h43, h44⟩, hfr45⟩ dM_openShelf_53
end
section
/-! methods that throw: the world stays as it was -/
abbrev eISE : String := "java/lang/IllegalStateException"
abbrev eIAE : String := "java/lang/IllegalArgumentException"
abbrev eIOB : String := "java/lang/IndexOutOfBoundsException"
abbrev eUOE : String := "java/lang/UnsupportedOperationException"
abbrev xNm : List String := ["java/lang/RuntimeException", "java/lang/Exception"]
def xStr : List (Nat × String) := [(217, "there are 12 parts"), (228, "a size is 1 to 1,000 millimetres"), (214, "no such part"), (61, "no such face"), (68, "a face is 0, 1 or 2"), (75, "a fraction has the parts 0 and 1"), (219, "no face of the part cools"), (91, "a part is not joined to itself"), (98, "the parts are so already"), (226, "below 0"), (124, "there are 8 riser rows"), (135, "no riser row is great enough"), (145, "the part has no riser"), (151, "there are 8 flow rows"), (230, "an opening is 0 to 10,000"), (233, "a flow is 0 to 1,000,000"), (162, "openings rise and flows do not fall"), (224, "there are no flow rows"), (171, "no opening lets so much through"), (176, "a shrinkage is 0 to 100 thousandths"), (235, "a molding's size is 1 to 2,000"), (185, "there are 40 things"), (190, "the thing does not fit"), (198, "no such thing"), (200, "a thing begins along 0 and 1")]
def xW : List Cond := [.declares (Bundle.initS "java/lang/RuntimeException"), .declares (Bundle.initS "java/lang/Exception"), .declares (Bundle.initS Bundle.tN), .castable eISE eISE, .castable eIAE eIAE, .castable eIOB eIOB, .castable eUOE eUOE]
def xNc : List (String × String) := [(eIAE, eISE), (eIAE, eIOB), (eUOE, eIOB), (eISE, eIOB), (eUOE, eISE), (eUOE, eIAE)]
def xS (B0 : Nat) (U : State) : Prop := vx_Zq Bundle.tN "UNASSIGNED_STACK" Bundle.steD (gF B0) U U.heap ∧ vx_Zq Bundle.tN "SUPPRESSED_SENTINEL" Bundle.listD (gF B0) U U.heap ∧ (∀ q ∈ xStr, ∃ sa : Nat, vk_R RX q.1 q.2 sa U) ∧ (∀ w ∈ xW, va_Nw w U) ∧ ∀ q ∈ xNc, va_Nc q.1 q.2 U
theorem xW_warm {s U : State} (hW : s.WarmedH U.vm) : ∀ w ∈ xW, va_Nw w s → va_Nw w U := by
  intro w hw
  simp only [xW, List.mem_cons, List.not_mem_nil, or_false] at hw
  rcases hw with rfl | rfl | rfl | rfl | rfl | rfl | rfl
  · exact va_Nw.warmD hW
  · exact va_Nw.warmD hW
  · exact va_Nw.warmD hW
  · exact va_Nw.warmC hW
  · exact va_Nw.warmC hW
  · exact va_Nw.warmC hW
  · exact va_Nw.warmC hW
theorem xW_tab : ∀ w ∈ xW, w.onTables = true := by decide +kernel
theorem xS_to {B0 : Nat} {s U : State} {H : Heap} {locs : List Loc} (h : xS B0 s) (hS : va_S (gF B0) s.heap H locs) (hU : U.heap = H) (hW : s.WarmedH U.vm) : xS B0 U := by
  have hk : ∀ q : Nat, q < s.heap.size → ¬ gF B0 q → U.heap[q]? = s.heap[q]? := fun q h1 h2 => by rw [hU]; exact hS.2.1 q h1 h2
  exact ⟨(h.1.kept hk).moved hW.alike, (h.2.1.kept hk).moved hW.alike, fun q hq => by obtain ⟨sa, h9⟩ := h.2.2.1 q hq; exact ⟨sa, h9.warm hW⟩, fun w hw => xW_warm hW w hw (h.2.2.2.1 w hw), fun q hq => (h.2.2.2.2 q hq).moved hW.alike⟩
theorem xS_call {B0 : Nat} {U : State} {g : JFrame} {mk : MethodId} {x : Array Value} (h : xS B0 U) : xS B0 (U.calling g mk x) :=
  ⟨h.1.moved (u := U) (U := U.calling g mk x) (Vm.Alike.refl U.vm), h.2.1.moved (u := U) (U := U.calling g mk x) (Vm.Alike.refl U.vm), fun q hq => by obtain ⟨sa, h9⟩ := h.2.2.1 q hq; exact ⟨sa, h9.same rfl⟩, fun w hw => va_Nw.same (u := U) (U := U.calling g mk x) (xW_tab w hw) rfl (h.2.2.2.1 w hw), fun q hq => (h.2.2.2.2 q hq).moved (u := U) (U := U.calling g mk x) (Vm.Alike.refl U.vm)⟩
def xPc (D : va_G) (k : ClassId × ClassId × ClassId) (a : Nat → Nat) (B0 : Nat) (w : Nat → va_E) (av : List Value) : Array Value → State → Prop := va_Pc av (fun U => B0 ≤ U.heap.size ∧ gW D a w U.heap ∧ va_K D vwCl (gT k) U ∧ xS B0 U)
theorem xPc_blind {D : va_G} {k : ClassId × ClassId × ClassId} {a : Nat → Nat} {B0 : Nat} {w : Nat → va_E} {av : List Value} : FrameBlind (xPc D k a B0 w av) := fun x U g mk q => by
  obtain ⟨q0, q1, q2, q3, q4⟩ := q
  exact ⟨q0, q1, q2, va_K.moved (u := U) (U := U.calling g mk x) (Vm.Alike.refl U.vm) q3, xS_call q4⟩
/-- E0 is thrown, the world is as it was -/
def xX (D : va_G) (k : ClassId × ClassId × ClassId) (a : Nat → Nat) (B0 : Nat) (w : Nat → va_E) (E0 : String) : String → State → State → Prop := vx_X (S := Nat → va_E) (fun w1 => w1 = w) (fun E w1 t => E = E0 ∧ gB D k a w1 t) (gF B0)
def xNo : Array Value → State → Outcome → State → Prop := fun _ _ _ _ => False
/-- a method that always throws E0 -/
abbrev xMet (l : Launch) (y : MethodName) (b : ByteArray) (maxL : Nat) (ret : Option FieldType) (rm : Room) (D : va_G) (k : ClassId × ClassId × ClassId) (a : Nat → Nat) (B0 : Nat) (w : Nat → va_E) (av : List Value) (E0 : String) : Prop := vx_Met l y (tbw y b maxL ret) rm (xPc D k a B0 w av) xNo (xX D k a B0 w E0) rm.cells rm.slots (gF B0)
section XOF
variable {l : Launch} {D : va_G} {k : ClassId × ClassId × ClassId} {a : Nat → Nat} {B0 : Nat} {w : Nat → va_E}
theorem x_ofW {y : MethodName} {b : ByteArray} {nL : Nat} {ret : Option FieldType} {rm : Room} {av : List Value} {E0 : String} (hy : plainName y.cls = true) (hsl : Nat.ble (lg_sl av).length nL = true)
    (body : ∀ (p : Program) (e : Env) (s : State) (m : MethodId) (args : Array Value) (below : List Frame) (meth : Method) (c : Code) (Q : State → Prop), (∀ t, vx_MQ below xNo (xX D k a B0 w E0) args s rm.cells rm.slots (gF B0) t → Q t) → (∀ x ∈ c.exceptionTable.toList, False) → p.tables.exec = Jvm.exec → c.code = b → meth.sig.returnType = ret → meth.locks = false → c.maxLocals = nL → s.vm.findClass y.cls = some m.cls → (∀ w ∈ TB, w.before args s = true) → B0 ≤ s.heap.size → gW D a w s.heap → va_K D vwCl (gT k) s → va_S (gF B0) s.heap s.heap [] → xS B0 s → ∀ ls : Array Slot, lv_has ls nL (lv_args 0 av) →
      W p l e rm s m args below meth c s.heap [] 0 0 Q (F0 m 0 ls [])) : xMet l y b nL ret rm D k a B0 w av E0 := by
  refine vx_ofW (cc := b) (maxL := nL) (ret := ret) hy rfl ?_
  intro p e s m args below meth c s₁ B hml ht hv
  obtain ⟨rfl, h1, h2, h3, h4⟩ := hv
  have hts := atoms_spec (ws := tbw y b nL ret) B.pre
  have hl := lv_entry av (n := nL) (Nat.le_of_ble_eq_true hsl)
  rw [lg_entry_eq]
  exact body p e s m av.toArray below meth c _ (fun _ h => h) ht B.exec B.bytes B.returns B.notSynchronized hml (findClass_of_methodNamed B.named) (fun w hw => hts w (List.mem_cons_of_mem _ hw)) h1 h2 h3 va_S.rf h4 _ hl
end XOF
/-- the words of a throw -/
def xOK (E : String) (ik ic : Nat) : Prop := Bundle.fit E = true ∧ Cond.classLink RX ik E ∈ TB ∧ Cond.initialized E ∈ TB ∧ (∀ w ∈ (vx_atS RX ic E xNm).filter goodWord, w ∈ TB) ∧ (∀ w ∈ (vx_atS RX ic E xNm).filter (fun w => !goodWord w), w ∈ xW) ∧ ∀ w ∈ Cond.classLink RX ik E :: Cond.initialized E :: vx_atS RX ic E xNm, vx_ot w = true
theorem xat_eISE : ∀ w ∈ (vx_atS RX 100 eISE xNm).filter goodWord, w ∈ lw_tbl := by decide +kernel
theorem xok_eISE : xOK eISE 96 100 := ⟨by decide +kernel, tb_at 182 (by decide +kernel) (by decide +kernel), tb_at 36 (by decide +kernel) (by decide +kernel), fun w h => tb_mem (xat_eISE w h) (List.mem_filter.mp h).2, by decide +kernel, by decide +kernel⟩
theorem xat_eIAE : ∀ w ∈ (vx_atS RX 70 eIAE xNm).filter goodWord, w ∈ lw_tbl := by decide +kernel
theorem xok_eIAE : xOK eIAE 66 70 := ⟨by decide +kernel, tb_at 254 (by decide +kernel) (by decide +kernel), tb_at 37 (by decide +kernel) (by decide +kernel), fun w h => tb_mem (xat_eIAE w h) (List.mem_filter.mp h).2, by decide +kernel, by decide +kernel⟩
theorem xat_eIOB : ∀ w ∈ (vx_atS RX 63 eIOB xNm).filter goodWord, w ∈ lw_tbl := by decide +kernel
theorem xok_eIOB : xOK eIOB 59 63 := ⟨by decide +kernel, tb_at 313 (by decide +kernel) (by decide +kernel), tb_at 38 (by decide +kernel) (by decide +kernel), fun w h => tb_mem (xat_eIOB w h) (List.mem_filter.mp h).2, by decide +kernel, by decide +kernel⟩
theorem xat_eUOE : ∀ w ∈ (vx_atS RX 137 eUOE xNm).filter goodWord, w ∈ lw_tbl := by decide +kernel
theorem xok_eUOE : xOK eUOE 133 137 := ⟨by decide +kernel, tb_at 353 (by decide +kernel) (by decide +kernel), tb_at 39 (by decide +kernel) (by decide +kernel), fun w h => tb_mem (xat_eUOE w h) (List.mem_filter.mp h).2, by decide +kernel, by decide +kernel⟩
section XROWS
variable {p : Program} {l : Launch} {e : Env} {R : Room} {s : State} {m : MethodId} {args : Array Value} {below : List Frame} {meth : Method} {c : Code} {H : Heap} {locs : List Loc} {cells slots : Nat} {Q : State → Prop}
variable {cc : ByteArray} {pc : Nat} {ls : Array Slot} {rest st As : List Value} {D : va_G} {k : ClassId × ClassId × ClassId} {a : Nat → Nat} {B0 : Nat} {w : Nat → va_E}
variable {y : MethodName} {b : ByteArray} {maxL nL n index : Nat} {ret : Option FieldType} {rm : Room} {own : String}
/-- throw new E("text") -/
theorem x_throw {E0 text : String} {ik is ic mc ms : Nat} (hQ : ∀ t, vx_MQ below xNo (xX D k a B0 w E0) args s mc ms (gF B0) t → Q t) (hl9 : l.stackTraces = false) (hE : xOK E0 ik ic) (hstr : (is, text) ∈ xStr) (hx : p.tables.exec = Jvm.exec) (hb : c.code = cc) (hml : c.maxLocals = nL) (hown : s.vm.findClass RX = some m.cls) (hts : ∀ w ∈ TB, w.before args s = true) (hG : gW D a w H) (hK : va_K D vwCl (gT k) s) (hS : va_S (gF B0) s.heap H locs) (hXS : xS B0 s) (hlk : meth.locks = false) (htab : ∀ x ∈ c.exceptionTable.toList, False) (hsz : ls.size = nL)
    (d0 : decode cc pc = .ok (.new ik, 3)) (d3 : decode cc (pc + 3) = .ok (.dup, 1)) (d4 : decode cc (pc + 4) = .ok (.ldc is, 2)) (d6 : decode cc (pc + 6) = .ok (.invokespecial ic, 3)) (d9 : decode cc (pc + 9) = .ok (.athrow, 1))
    (hR1 : 5 < R.frames) (hR2 : (rest.map fun v => v.category).sum + 82 ≤ R.locals) (hR3 : cells + 1 ≤ R.cells) (hR4 : slots + 6 ≤ R.slots) (h1 : cells + 1 ≤ mc) (h2 : slots + 6 ≤ ms) : W p l e R s m args below meth c H locs cells slots Q (F0 m pc ls rest) := by
  obtain ⟨sa, hsa⟩ := hXS.2.2.1 _ hstr
  intro T hT X
  obtain ⟨t, a1, b1⟩ := (vx_throwS (Qc := xNo) (XC := xX D k a B0 w E0) (free := gF B0) (mc := mc) (ms := ms) (A := gF B0) (own := RX) (cls := E0) (text := text) (names := xNm) (ik := ik) (is := is) (ic := ic) (sa := sa) hx hb hl9 hown hE.1 (by decide) (hts _ hE.2.1) (hts _ hE.2.2.1) hsa (vx_hat (B := xW) (fun w hw => hts w (hE.2.2.2.1 w hw)) hE.2.2.2.2.1 (fun w hw => va_Nw.use (xW_tab w hw) (hXS.2.2.2.1 w hw))) hE.2.2.2.2.2 hXS.1 hXS.2.1 hS (hsz.trans hml.symm) d0 d3 d4 d6 d9 (fun x hx9 => (htab x hx9).elim) hR1 hR2 hR3 hR4 hlk
    (fun t ha hz hq => ⟨w, rfl, ⟨rfl, gW_kept hG hq, va_K.moved ha hK⟩, ⟨Nat.le_trans hS.1 hz, fun q h1 h2 => by rw [hq q (Nat.lt_of_lt_of_le h1 hS.1)]; exact hS.2.1 q h1 h2⟩⟩) hS.2.2 h1 h2) T hT X
  exact ⟨t, a1, hQ t b1⟩
/-- what a call that throws hands on -/
theorem x_callB {E0 : String} {st0 : List Value} {mc ms : Nat} {a9 : Array Value} (hr : vx_Run p l e R s m args below meth c H locs cells slots mc ms (F0 m pc ls st0) rest (xNo a9) (xX D k a B0 w E0) (gF B0)) (hS : va_S (gF B0) s.heap H locs)
    (kx : ∀ (ce : Cell) (q9 : Addr) (H1 : Heap) (locs1 : List Loc), gW D a w H1 → va_S (gF B0) s.heap H1 locs1 → H1[q9]? = some ce → ce.vm = .none → s.vm.findClass E0 = some ce.cls → vx_W p l e R s m args below meth c H1 locs1 (cells + mc) (slots + ms) Q (F0 m pc ls rest) q9) : W p l e R s m args below meth c H locs cells slots Q (F0 m pc ls st0) := by
  intro T hT X
  rcases hr T hT X with ⟨v, st₀, t, T', L, h0, X', hL, e1, e2, hno, st9⟩ | ⟨q, st₀, t, T', L, E, ce, h0, X', hL, e1, e2, ⟨u, hu, ⟨hE, hb9⟩, hF⟩, hce, hcv, hcl, st9⟩
  · exact hno.elim
  · subst hu; subst hE
    obtain ⟨k1, k2, k3⟩ := vx_keep (A1 := gF B0) h0 e1 hS (fun q _ h => h) (fun q h => h) hL hF
    obtain ⟨t2, a1, b1⟩ := kx ce q T'.heap (locs ++ L) (by rw [e1]; exact hb9.1) k3 (by rw [e1]; exact hce) hcv hcl T' rfl X'
    exact ⟨t2, st9.trans a1, b1⟩
theorem x_out {E0 : String} {ce : Cell} {q : Addr} {mc ms : Nat} (hQ : ∀ t, vx_MQ below xNo (xX D k a B0 w E0) args s mc ms (gF B0) t → Q t) (htab : ∀ x ∈ c.exceptionTable.toList, False) (hlk : meth.locks = false) (hG : gW D a w H) (hK : va_K D vwCl (gT k) s) (hS : va_S (gF B0) s.heap H locs) (hce : H[q]? = some ce) (hv : ce.vm = .none) (hcl : s.vm.findClass E0 = some ce.cls) (h1 : cells ≤ mc) (h2 : slots ≤ ms) : vx_W p l e R s m args below meth c H locs cells slots Q (F0 m pc ls rest) q := by
  intro T hT X
  obtain ⟨t, a1, b1⟩ := (vx_out (Qc := xNo) (XC := xX D k a B0 w E0) (free := gF B0) (E := E0) (fun x hx9 => (htab x hx9).elim) hlk hce hv hcl (fun t ht ha => ⟨w, rfl, ⟨rfl, by rw [ht]; exact hG, va_K.moved ha hK⟩, hS.F ht⟩) hS.2.2 h1 h2) T hT X
  exact ⟨t, a1, hQ t b1⟩
theorem x_VX {E0 : String} {i : Nat} (hM : xMet l y b maxL ret rm D k a B0 w (.ref (a i) :: As) E0) (hc : cal y b maxL ret n) (hv : calV y) (hl : Cond.methodLink own index y ∈ TB) (hx : p.tables.exec = Jvm.exec) (hb : c.code = cc) (hml : c.maxLocals = nL) (hown : s.vm.findClass own = some m.cls) (hts : ∀ w ∈ TB, w.before args s = true) (hB : B0 ≤ s.heap.size) (hG : gW D a w H) (hK : va_K D vwCl (gT k) s) (hS : va_S (gF B0) s.heap H locs) (hXS : xS B0 s)
    (hi : i < gN) {ci : Nat} {fs : List Value} {T : u_T} {N : Nat} (he : w i = .inr (ci, fs)) (hcl : vwCl[ci]? = some (y.cls, T, N)) (hR : rm.frames + 1 ≤ R.frames ∧ 8 + (maxL + 11) + rm.locals ≤ R.locals) (hn : As.length = n) (hsz : ls.size = nL) (hst : st = As.reverse ++ .ref (a i) :: rest) (hW : (rest.map fun v => v.category).sum ≤ 8) (hdg : decode cc pc = .ok (.invokevirtual index, 3)) (hf : cells + rm.cells ≤ R.cells ∧ slots + rm.slots ≤ R.slots)
    (kx : ∀ (ce : Cell) (q9 : Addr) (H1 : Heap) (locs1 : List Loc), gW D a w H1 → va_S (gF B0) s.heap H1 locs1 → H1[q9]? = some ce → ce.vm = .none → s.vm.findClass E0 = some ce.cls → vx_W p l e R s m args below meth c H1 locs1 (cells + rm.cells) (slots + rm.slots) Q (F0 m pc ls rest) q9) : W p l e R s m args below meth c H locs cells slots Q (F0 m pc ls st) := by
  subst hst
  exact x_callB (vx_runV (As := As) (rest := rest) ⟨hx, hb, hml, hown, hts⟩ hM (g_cwV hts hc hv hl hR) ⟨xPc_blind, va_recv hK (g_one hG hi he) (q0 := 0) hcl rfl, fun U hU hW => ⟨rfl, by rw [hU]; exact Nat.le_trans hB hS.1, by rw [hU]; exact hG, va_K.moved hW.alike hK, xS_to hXS hS hU hW⟩⟩ rfl hn hsz rfl (lv_room hW) hdg hf) hS kx
theorem x_VB {E0 : String} {i : Nat} {mc ms : Nat} (hQ : ∀ t, vx_MQ below xNo (xX D k a B0 w E0) args s mc ms (gF B0) t → Q t) (htab : ∀ x ∈ c.exceptionTable.toList, False) (hlk : meth.locks = false) (hM : xMet l y b maxL ret rm D k a B0 w (.ref (a i) :: As) E0) (hc : cal y b maxL ret n) (hv : calV y) (hl : Cond.methodLink own index y ∈ TB) (hx : p.tables.exec = Jvm.exec) (hb : c.code = cc) (hml : c.maxLocals = nL) (hown : s.vm.findClass own = some m.cls) (hts : ∀ w ∈ TB, w.before args s = true) (hB : B0 ≤ s.heap.size) (hG : gW D a w H) (hK : va_K D vwCl (gT k) s) (hS : va_S (gF B0) s.heap H locs) (hXS : xS B0 s)
    (hi : i < gN) {ci : Nat} {fs : List Value} {T : u_T} {N : Nat} (he : w i = .inr (ci, fs)) (hcl : vwCl[ci]? = some (y.cls, T, N)) (hR : rm.frames + 1 ≤ R.frames ∧ 8 + (maxL + 11) + rm.locals ≤ R.locals) (hn : As.length = n) (hsz : ls.size = nL) (hst : st = As.reverse ++ .ref (a i) :: rest) (hW : (rest.map fun v => v.category).sum ≤ 8) (hdg : decode cc pc = .ok (.invokevirtual index, 3)) (hf : cells + rm.cells ≤ R.cells ∧ slots + rm.slots ≤ R.slots) (h1 : cells + rm.cells ≤ mc) (h2 : slots + rm.slots ≤ ms) : W p l e R s m args below meth c H locs cells slots Q (F0 m pc ls st) :=
  x_VX hM hc hv hl hx hb hml hown hts hB hG hK hS hXS hi he hcl hR hn hsz hst hW hdg hf (fun ce q9 H1 locs1 hG1 hS1 hce hcv hcl9 => x_out hQ htab hlk hG1 hK hS1 hce hcv hcl9 h1 h2)
theorem x_SX {E0 : String} (hM : xMet l y b maxL ret rm D k a B0 w (As) E0) (hc : cal y b maxL ret n) (hv : calS y) (hl : Cond.methodLink own index y ∈ TB) (hx : p.tables.exec = Jvm.exec) (hb : c.code = cc) (hml : c.maxLocals = nL) (hown : s.vm.findClass own = some m.cls) (hts : ∀ w ∈ TB, w.before args s = true) (hB : B0 ≤ s.heap.size) (hG : gW D a w H) (hK : va_K D vwCl (gT k) s) (hS : va_S (gF B0) s.heap H locs) (hXS : xS B0 s)
    (hR : rm.frames + 1 ≤ R.frames ∧ 8 + (maxL + 11) + rm.locals ≤ R.locals) (hn : As.length = n) (hsz : ls.size = nL) (hst : st = As.reverse ++ rest) (hW : (rest.map fun v => v.category).sum ≤ 8) (hdg : decode cc pc = .ok (.invokestatic index, 3)) (hf : cells + rm.cells ≤ R.cells ∧ slots + rm.slots ≤ R.slots)
    (kx : ∀ (ce : Cell) (q9 : Addr) (H1 : Heap) (locs1 : List Loc), gW D a w H1 → va_S (gF B0) s.heap H1 locs1 → H1[q9]? = some ce → ce.vm = .none → s.vm.findClass E0 = some ce.cls → vx_W p l e R s m args below meth c H1 locs1 (cells + rm.cells) (slots + rm.slots) Q (F0 m pc ls rest) q9) : W p l e R s m args below meth c H locs cells slots Q (F0 m pc ls st) := by
  subst hst
  exact x_callB (vx_runS (As := As) (rest := rest) ⟨hx, hb, hml, hown, hts⟩ hM (⟨g_cwB hts hc hl hR, hts _ hv⟩) ⟨xPc_blind, fun U hU hW => ⟨rfl, by rw [hU]; exact Nat.le_trans hB hS.1, by rw [hU]; exact hG, va_K.moved hW.alike hK, xS_to hXS hS hU hW⟩⟩ rfl hn hsz rfl (lv_room hW) hdg hf) hS kx
theorem x_SB {E0 : String} {mc ms : Nat} (hQ : ∀ t, vx_MQ below xNo (xX D k a B0 w E0) args s mc ms (gF B0) t → Q t) (htab : ∀ x ∈ c.exceptionTable.toList, False) (hlk : meth.locks = false) (hM : xMet l y b maxL ret rm D k a B0 w (As) E0) (hc : cal y b maxL ret n) (hv : calS y) (hl : Cond.methodLink own index y ∈ TB) (hx : p.tables.exec = Jvm.exec) (hb : c.code = cc) (hml : c.maxLocals = nL) (hown : s.vm.findClass own = some m.cls) (hts : ∀ w ∈ TB, w.before args s = true) (hB : B0 ≤ s.heap.size) (hG : gW D a w H) (hK : va_K D vwCl (gT k) s) (hS : va_S (gF B0) s.heap H locs) (hXS : xS B0 s)
    (hR : rm.frames + 1 ≤ R.frames ∧ 8 + (maxL + 11) + rm.locals ≤ R.locals) (hn : As.length = n) (hsz : ls.size = nL) (hst : st = As.reverse ++ rest) (hW : (rest.map fun v => v.category).sum ≤ 8) (hdg : decode cc pc = .ok (.invokestatic index, 3)) (hf : cells + rm.cells ≤ R.cells ∧ slots + rm.slots ≤ R.slots) (h1 : cells + rm.cells ≤ mc) (h2 : slots + rm.slots ≤ ms) : W p l e R s m args below meth c H locs cells slots Q (F0 m pc ls st) :=
  x_SX hM hc hv hl hx hb hml hown hts hB hG hK hS hXS hR hn hsz hst hW hdg hf (fun ce q9 H1 locs1 hG1 hS1 hce hcv hcl9 => x_out hQ htab hlk hG1 hK hS1 hce hcv hcl9 h1 h2)
end XROWS
end
section
theorem dX_init_0 : decode cX_init 0 = .ok (.aload_n 0, 1) := by decide +kernel
theorem dX_init_1 : decode cX_init 1 = .ok (.invokespecial 1, 3) := by decide +kernel
theorem dX_init_4 : decode cX_init 4 = .ok (.aload_n 0, 1) := by decide +kernel
theorem dX_init_5 : decode cX_init 5 = .ok (.new 7, 3) := by decide +kernel
theorem dX_init_8 : decode cX_init 8 = .ok (.dup, 1) := by decide +kernel
theorem dX_init_9 : decode cX_init 9 = .ok (.invokespecial 9, 3) := by decide +kernel
theorem dX_init_12 : decode cX_init 12 = .ok (.putfield 10, 3) := by decide +kernel
theorem dX_init_15 : decode cX_init 15 = .ok (.aload_n 0, 1) := by decide +kernel
theorem dX_init_16 : decode cX_init 16 = .ok (.new 16, 3) := by decide +kernel
theorem dX_init_19 : decode cX_init 19 = .ok (.dup, 1) := by decide +kernel
theorem dX_init_20 : decode cX_init 20 = .ok (.invokespecial 18, 3) := by decide +kernel
theorem dX_init_23 : decode cX_init 23 = .ok (.putfield 19, 3) := by decide +kernel
theorem dX_init_26 : decode cX_init 26 = .ok (.aload_n 0, 1) := by decide +kernel
theorem dX_init_27 : decode cX_init 27 = .ok (.new 23, 3) := by decide +kernel
theorem dX_init_30 : decode cX_init 30 = .ok (.dup, 1) := by decide +kernel
theorem dX_init_31 : decode cX_init 31 = .ok (.invokespecial 25, 3) := by decide +kernel
theorem dX_init_34 : decode cX_init 34 = .ok (.putfield 26, 3) := by decide +kernel
theorem dX_init_37 : decode cX_init 37 = .ok (.aload_n 0, 1) := by decide +kernel
theorem dX_init_38 : decode cX_init 38 = .ok (.new 30, 3) := by decide +kernel
theorem dX_init_41 : decode cX_init 41 = .ok (.dup, 1) := by decide +kernel
theorem dX_init_42 : decode cX_init 42 = .ok (.invokespecial 32, 3) := by decide +kernel
theorem dX_init_45 : decode cX_init 45 = .ok (.putfield 33, 3) := by decide +kernel
theorem dX_init_48 : decode cX_init 48 = .ok (.return_, 1) := by decide +kernel
theorem dX_box_0 : decode cX_box 0 = .ok (.aload_n 0, 1) := by decide +kernel
theorem dX_box_1 : decode cX_box 1 = .ok (.invokevirtual 37, 3) := by decide +kernel
theorem dX_box_4 : decode cX_box 4 = .ok (.iload_n 1, 1) := by decide +kernel
theorem dX_box_5 : decode cX_box 5 = .ok (.invokestatic 40, 3) := by decide +kernel
theorem dX_box_8 : decode cX_box 8 = .ok (.iload_n 2, 1) := by decide +kernel
theorem dX_box_9 : decode cX_box 9 = .ok (.invokestatic 40, 3) := by decide +kernel
theorem dX_box_12 : decode cX_box 12 = .ok (.iload_n 3, 1) := by decide +kernel
theorem dX_box_13 : decode cX_box 13 = .ok (.invokestatic 40, 3) := by decide +kernel
theorem dX_box_16 : decode cX_box 16 = .ok (.aload_n 0, 1) := by decide +kernel
theorem dX_box_17 : decode cX_box 17 = .ok (.getfield 10, 3) := by decide +kernel
theorem dX_box_20 : decode cX_box 20 = .ok (.iload_n 1, 1) := by decide +kernel
theorem dX_box_21 : decode cX_box 21 = .ok (.iload_n 2, 1) := by decide +kernel
theorem dX_box_22 : decode cX_box 22 = .ok (.iload_n 3, 1) := by decide +kernel
theorem dX_box_23 : decode cX_box 23 = .ok (.invokevirtual 44, 3) := by decide +kernel
theorem dX_box_26 : decode cX_box 26 = .ok (.ireturn, 1) := by decide +kernel
theorem dX_cylinder_0 : decode cX_cylinder 0 = .ok (.aload_n 0, 1) := by decide +kernel
theorem dX_cylinder_1 : decode cX_cylinder 1 = .ok (.invokevirtual 37, 3) := by decide +kernel
theorem dX_cylinder_4 : decode cX_cylinder 4 = .ok (.iload_n 1, 1) := by decide +kernel
theorem dX_cylinder_5 : decode cX_cylinder 5 = .ok (.invokestatic 40, 3) := by decide +kernel
theorem dX_cylinder_8 : decode cX_cylinder 8 = .ok (.iload_n 2, 1) := by decide +kernel
theorem dX_cylinder_9 : decode cX_cylinder 9 = .ok (.invokestatic 40, 3) := by decide +kernel
theorem dX_cylinder_12 : decode cX_cylinder 12 = .ok (.aload_n 0, 1) := by decide +kernel
theorem dX_cylinder_13 : decode cX_cylinder 13 = .ok (.getfield 10, 3) := by decide +kernel
theorem dX_cylinder_16 : decode cX_cylinder 16 = .ok (.iload_n 1, 1) := by decide +kernel
theorem dX_cylinder_17 : decode cX_cylinder 17 = .ok (.iload_n 2, 1) := by decide +kernel
theorem dX_cylinder_18 : decode cX_cylinder 18 = .ok (.invokevirtual 48, 3) := by decide +kernel
theorem dX_cylinder_21 : decode cX_cylinder 21 = .ok (.ireturn, 1) := by decide +kernel
theorem dX_face_0 : decode cX_face 0 = .ok (.aload_n 0, 1) := by decide +kernel
theorem dX_face_1 : decode cX_face 1 = .ok (.iload_n 1, 1) := by decide +kernel
theorem dX_face_2 : decode cX_face 2 = .ok (.invokevirtual 52, 3) := by decide +kernel
theorem dX_face_5 : decode cX_face 5 = .ok (.aload_n 0, 1) := by decide +kernel
theorem dX_face_6 : decode cX_face 6 = .ok (.getfield 10, 3) := by decide +kernel
theorem dX_face_9 : decode cX_face 9 = .ok (.iload_n 1, 1) := by decide +kernel
theorem dX_face_10 : decode cX_face 10 = .ok (.iload_n 2, 1) := by decide +kernel
theorem dX_face_11 : decode cX_face 11 = .ok (.invokevirtual 55, 3) := by decide +kernel
theorem dX_face_14 : decode cX_face 14 = .ok (.ifCond .ne 13, 3) := by decide +kernel
theorem dX_face_17 : decode cX_face 17 = .ok (.new 59, 3) := by decide +kernel
theorem dX_face_20 : decode cX_face 20 = .ok (.dup, 1) := by decide +kernel
theorem dX_face_21 : decode cX_face 21 = .ok (.ldc 61, 2) := by decide +kernel
theorem dX_face_23 : decode cX_face 23 = .ok (.invokespecial 63, 3) := by decide +kernel
theorem dX_face_26 : decode cX_face 26 = .ok (.athrow, 1) := by decide +kernel
theorem dX_face_27 : decode cX_face 27 = .ok (.iload_n 3, 1) := by decide +kernel
theorem dX_face_28 : decode cX_face 28 = .ok (.ifCond .lt 8, 3) := by decide +kernel
theorem dX_face_31 : decode cX_face 31 = .ok (.iload_n 3, 1) := by decide +kernel
theorem dX_face_32 : decode cX_face 32 = .ok (.iconst 2, 1) := by decide +kernel
theorem dX_face_33 : decode cX_face 33 = .ok (.if_icmp .le 13, 3) := by decide +kernel
theorem dX_face_36 : decode cX_face 36 = .ok (.new 66, 3) := by decide +kernel
theorem dX_face_39 : decode cX_face 39 = .ok (.dup, 1) := by decide +kernel
theorem dX_face_40 : decode cX_face 40 = .ok (.ldc 68, 2) := by decide +kernel
theorem dX_face_42 : decode cX_face 42 = .ok (.invokespecial 70, 3) := by decide +kernel
theorem dX_face_45 : decode cX_face 45 = .ok (.athrow, 1) := by decide +kernel
theorem dX_face_46 : decode cX_face 46 = .ok (.aload_n 0, 1) := by decide +kernel
theorem dX_face_47 : decode cX_face 47 = .ok (.getfield 10, 3) := by decide +kernel
theorem dX_face_50 : decode cX_face 50 = .ok (.iload_n 1, 1) := by decide +kernel
theorem dX_face_51 : decode cX_face 51 = .ok (.iload_n 2, 1) := by decide +kernel
theorem dX_face_52 : decode cX_face 52 = .ok (.iload_n 3, 1) := by decide +kernel
theorem dX_face_53 : decode cX_face 53 = .ok (.invokevirtual 71, 3) := by decide +kernel
theorem dX_face_56 : decode cX_face 56 = .ok (.return_, 1) := by decide +kernel
theorem dX_modulus_0 : decode cX_modulus 0 = .ok (.aload_n 0, 1) := by decide +kernel
theorem dX_modulus_1 : decode cX_modulus 1 = .ok (.iload_n 1, 1) := by decide +kernel
theorem dX_modulus_2 : decode cX_modulus 2 = .ok (.invokevirtual 52, 3) := by decide +kernel
theorem dX_modulus_5 : decode cX_modulus 5 = .ok (.iload_n 2, 1) := by decide +kernel
theorem dX_modulus_6 : decode cX_modulus 6 = .ok (.ifCond .lt 8, 3) := by decide +kernel
theorem dX_modulus_9 : decode cX_modulus 9 = .ok (.iload_n 2, 1) := by decide +kernel
theorem dX_modulus_10 : decode cX_modulus 10 = .ok (.iconst 1, 1) := by decide +kernel
theorem dX_modulus_11 : decode cX_modulus 11 = .ok (.if_icmp .le 13, 3) := by decide +kernel
theorem dX_modulus_14 : decode cX_modulus 14 = .ok (.new 59, 3) := by decide +kernel
theorem dX_modulus_17 : decode cX_modulus 17 = .ok (.dup, 1) := by decide +kernel
theorem dX_modulus_18 : decode cX_modulus 18 = .ok (.ldc 75, 2) := by decide +kernel
theorem dX_modulus_20 : decode cX_modulus 20 = .ok (.invokespecial 63, 3) := by decide +kernel
theorem dX_modulus_23 : decode cX_modulus 23 = .ok (.athrow, 1) := by decide +kernel
theorem dX_modulus_24 : decode cX_modulus 24 = .ok (.aload_n 0, 1) := by decide +kernel
theorem dX_modulus_25 : decode cX_modulus 25 = .ok (.iload_n 1, 1) := by decide +kernel
theorem dX_modulus_26 : decode cX_modulus 26 = .ok (.invokevirtual 77, 3) := by decide +kernel
theorem dX_modulus_29 : decode cX_modulus 29 = .ok (.aload_n 0, 1) := by decide +kernel
theorem dX_modulus_30 : decode cX_modulus 30 = .ok (.getfield 10, 3) := by decide +kernel
theorem dX_modulus_33 : decode cX_modulus 33 = .ok (.iload_n 1, 1) := by decide +kernel
theorem dX_modulus_34 : decode cX_modulus 34 = .ok (.invokevirtual 80, 3) := by decide +kernel
theorem dX_modulus_37 : decode cX_modulus 37 = .ok (.aload_n 0, 1) := by decide +kernel
theorem dX_modulus_38 : decode cX_modulus 38 = .ok (.getfield 10, 3) := by decide +kernel
theorem dX_modulus_41 : decode cX_modulus 41 = .ok (.iload_n 1, 1) := by decide +kernel
theorem dX_modulus_42 : decode cX_modulus 42 = .ok (.invokevirtual 84, 3) := by decide +kernel
theorem dX_modulus_45 : decode cX_modulus 45 = .ok (.iload_n 2, 1) := by decide +kernel
theorem dX_modulus_46 : decode cX_modulus 46 = .ok (.invokestatic 87, 3) := by decide +kernel
theorem dX_modulus_49 : decode cX_modulus 49 = .ok (.lreturn, 1) := by decide +kernel
theorem dX_join_0 : decode cX_join 0 = .ok (.aload_n 0, 1) := by decide +kernel
theorem dX_join_1 : decode cX_join 1 = .ok (.iload_n 1, 1) := by decide +kernel
theorem dX_join_2 : decode cX_join 2 = .ok (.invokevirtual 52, 3) := by decide +kernel
theorem dX_join_5 : decode cX_join 5 = .ok (.aload_n 0, 1) := by decide +kernel
theorem dX_join_6 : decode cX_join 6 = .ok (.iload_n 2, 1) := by decide +kernel
theorem dX_join_7 : decode cX_join 7 = .ok (.invokevirtual 52, 3) := by decide +kernel
theorem dX_join_10 : decode cX_join 10 = .ok (.iload_n 1, 1) := by decide +kernel
theorem dX_join_11 : decode cX_join 11 = .ok (.iload_n 2, 1) := by decide +kernel
theorem dX_join_12 : decode cX_join 12 = .ok (.if_icmp .ne 13, 3) := by decide +kernel
theorem dX_join_15 : decode cX_join 15 = .ok (.new 59, 3) := by decide +kernel
theorem dX_join_18 : decode cX_join 18 = .ok (.dup, 1) := by decide +kernel
theorem dX_join_19 : decode cX_join 19 = .ok (.ldc 91, 2) := by decide +kernel
theorem dX_join_21 : decode cX_join 21 = .ok (.invokespecial 63, 3) := by decide +kernel
theorem dX_join_24 : decode cX_join 24 = .ok (.athrow, 1) := by decide +kernel
theorem dX_join_25 : decode cX_join 25 = .ok (.aload_n 0, 1) := by decide +kernel
theorem dX_join_26 : decode cX_join 26 = .ok (.getfield 10, 3) := by decide +kernel
theorem dX_join_29 : decode cX_join 29 = .ok (.iload_n 1, 1) := by decide +kernel
theorem dX_join_30 : decode cX_join 30 = .ok (.iload_n 2, 1) := by decide +kernel
theorem dX_join_31 : decode cX_join 31 = .ok (.invokevirtual 93, 3) := by decide +kernel
theorem dX_join_34 : decode cX_join 34 = .ok (.iload_n 3, 1) := by decide +kernel
theorem dX_join_35 : decode cX_join 35 = .ok (.if_icmp .ne 13, 3) := by decide +kernel
theorem dX_join_38 : decode cX_join 38 = .ok (.new 96, 3) := by decide +kernel
theorem dX_join_41 : decode cX_join 41 = .ok (.dup, 1) := by decide +kernel
theorem dX_join_42 : decode cX_join 42 = .ok (.ldc 98, 2) := by decide +kernel
theorem dX_join_44 : decode cX_join 44 = .ok (.invokespecial 100, 3) := by decide +kernel
theorem dX_join_47 : decode cX_join 47 = .ok (.athrow, 1) := by decide +kernel
theorem dX_join_48 : decode cX_join 48 = .ok (.aload_n 0, 1) := by decide +kernel
theorem dX_join_49 : decode cX_join 49 = .ok (.getfield 10, 3) := by decide +kernel
theorem dX_join_52 : decode cX_join 52 = .ok (.iload_n 1, 1) := by decide +kernel
theorem dX_join_53 : decode cX_join 53 = .ok (.iload_n 2, 1) := by decide +kernel
theorem dX_join_54 : decode cX_join 54 = .ok (.iload_n 3, 1) := by decide +kernel
theorem dX_join_55 : decode cX_join 55 = .ok (.invokevirtual 101, 3) := by decide +kernel
theorem dX_join_58 : decode cX_join 58 = .ok (.return_, 1) := by decide +kernel
theorem dX_order_0 : decode cX_order 0 = .ok (.iload_n 1, 1) := by decide +kernel
theorem dX_order_1 : decode cX_order 1 = .ok (.invokestatic 105, 3) := by decide +kernel
theorem dX_order_4 : decode cX_order 4 = .ok (.iconst 0, 1) := by decide +kernel
theorem dX_order_5 : decode cX_order 5 = .ok (.istore_n 2, 1) := by decide +kernel
theorem dX_order_6 : decode cX_order 6 = .ok (.iload_n 2, 1) := by decide +kernel
theorem dX_order_7 : decode cX_order 7 = .ok (.aload_n 0, 1) := by decide +kernel
theorem dX_order_8 : decode cX_order 8 = .ok (.getfield 10, 3) := by decide +kernel
theorem dX_order_11 : decode cX_order 11 = .ok (.invokevirtual 108, 3) := by decide +kernel
theorem dX_order_14 : decode cX_order 14 = .ok (.if_icmp .ge 34, 3) := by decide +kernel
theorem dX_order_17 : decode cX_order 17 = .ok (.aload_n 0, 1) := by decide +kernel
theorem dX_order_18 : decode cX_order 18 = .ok (.getfield 10, 3) := by decide +kernel
theorem dX_order_21 : decode cX_order 21 = .ok (.iload_n 2, 1) := by decide +kernel
theorem dX_order_22 : decode cX_order 22 = .ok (.invokevirtual 112, 3) := by decide +kernel
theorem dX_order_25 : decode cX_order 25 = .ok (.ifCond .eq 17, 3) := by decide +kernel
theorem dX_order_28 : decode cX_order 28 = .ok (.aload_n 0, 1) := by decide +kernel
theorem dX_order_29 : decode cX_order 29 = .ok (.getfield 10, 3) := by decide +kernel
theorem dX_order_32 : decode cX_order 32 = .ok (.iload_n 2, 1) := by decide +kernel
theorem dX_order_33 : decode cX_order 33 = .ok (.invokevirtual 116, 3) := by decide +kernel
theorem dX_order_36 : decode cX_order 36 = .ok (.iload_n 1, 1) := by decide +kernel
theorem dX_order_37 : decode cX_order 37 = .ok (.if_icmp .ne 5, 3) := by decide +kernel
theorem dX_order_40 : decode cX_order 40 = .ok (.iload_n 2, 1) := by decide +kernel
theorem dX_order_41 : decode cX_order 41 = .ok (.ireturn, 1) := by decide +kernel
theorem dX_order_42 : decode cX_order 42 = .ok (.iinc 2 1, 3) := by decide +kernel
theorem dX_order_45 : decode cX_order 45 = .ok (.goto (-39), 3) := by decide +kernel
theorem dX_order_48 : decode cX_order 48 = .ok (.iconst (-1), 1) := by decide +kernel
theorem dX_order_49 : decode cX_order 49 = .ok (.ireturn, 1) := by decide +kernel
theorem dX_riserRow_0 : decode cX_riserRow 0 = .ok (.aload_n 0, 1) := by decide +kernel
theorem dX_riserRow_1 : decode cX_riserRow 1 = .ok (.getfield 19, 3) := by decide +kernel
theorem dX_riserRow_4 : decode cX_riserRow 4 = .ok (.invokevirtual 120, 3) := by decide +kernel
theorem dX_riserRow_7 : decode cX_riserRow 7 = .ok (.ifCond .eq 13, 3) := by decide +kernel
theorem dX_riserRow_10 : decode cX_riserRow 10 = .ok (.new 96, 3) := by decide +kernel
theorem dX_riserRow_13 : decode cX_riserRow 13 = .ok (.dup, 1) := by decide +kernel
theorem dX_riserRow_14 : decode cX_riserRow 14 = .ok (.ldc 124, 2) := by decide +kernel
theorem dX_riserRow_16 : decode cX_riserRow 16 = .ok (.invokespecial 100, 3) := by decide +kernel
theorem dX_riserRow_19 : decode cX_riserRow 19 = .ok (.athrow, 1) := by decide +kernel
theorem dX_riserRow_20 : decode cX_riserRow 20 = .ok (.iload_n 1, 1) := by decide +kernel
theorem dX_riserRow_21 : decode cX_riserRow 21 = .ok (.invokestatic 40, 3) := by decide +kernel
theorem dX_riserRow_24 : decode cX_riserRow 24 = .ok (.iload_n 2, 1) := by decide +kernel
theorem dX_riserRow_25 : decode cX_riserRow 25 = .ok (.invokestatic 40, 3) := by decide +kernel
theorem dX_riserRow_28 : decode cX_riserRow 28 = .ok (.aload_n 0, 1) := by decide +kernel
theorem dX_riserRow_29 : decode cX_riserRow 29 = .ok (.getfield 19, 3) := by decide +kernel
theorem dX_riserRow_32 : decode cX_riserRow 32 = .ok (.iload_n 1, 1) := by decide +kernel
theorem dX_riserRow_33 : decode cX_riserRow 33 = .ok (.iload_n 2, 1) := by decide +kernel
theorem dX_riserRow_34 : decode cX_riserRow 34 = .ok (.invokevirtual 126, 3) := by decide +kernel
theorem dX_riserRow_37 : decode cX_riserRow 37 = .ok (.ireturn, 1) := by decide +kernel
theorem dX_riser_0 : decode cX_riser 0 = .ok (.aload_n 0, 1) := by decide +kernel
theorem dX_riser_1 : decode cX_riser 1 = .ok (.iload_n 1, 1) := by decide +kernel
theorem dX_riser_2 : decode cX_riser 2 = .ok (.invokevirtual 52, 3) := by decide +kernel
theorem dX_riser_5 : decode cX_riser 5 = .ok (.aload_n 0, 1) := by decide +kernel
theorem dX_riser_6 : decode cX_riser 6 = .ok (.iload_n 1, 1) := by decide +kernel
theorem dX_riser_7 : decode cX_riser 7 = .ok (.invokevirtual 77, 3) := by decide +kernel
theorem dX_riser_10 : decode cX_riser 10 = .ok (.aload_n 0, 1) := by decide +kernel
theorem dX_riser_11 : decode cX_riser 11 = .ok (.getfield 19, 3) := by decide +kernel
theorem dX_riser_14 : decode cX_riser 14 = .ok (.aload_n 0, 1) := by decide +kernel
theorem dX_riser_15 : decode cX_riser 15 = .ok (.getfield 10, 3) := by decide +kernel
theorem dX_riser_18 : decode cX_riser 18 = .ok (.iload_n 1, 1) := by decide +kernel
theorem dX_riser_19 : decode cX_riser 19 = .ok (.invokevirtual 80, 3) := by decide +kernel
theorem dX_riser_22 : decode cX_riser 22 = .ok (.aload_n 0, 1) := by decide +kernel
theorem dX_riser_23 : decode cX_riser 23 = .ok (.getfield 10, 3) := by decide +kernel
theorem dX_riser_26 : decode cX_riser 26 = .ok (.iload_n 1, 1) := by decide +kernel
theorem dX_riser_27 : decode cX_riser 27 = .ok (.invokevirtual 84, 3) := by decide +kernel
theorem dX_riser_30 : decode cX_riser 30 = .ok (.invokevirtual 129, 3) := by decide +kernel
theorem dX_riser_33 : decode cX_riser 33 = .ok (.istore_n 2, 1) := by decide +kernel
theorem dX_riser_34 : decode cX_riser 34 = .ok (.iload_n 2, 1) := by decide +kernel
theorem dX_riser_35 : decode cX_riser 35 = .ok (.iconst (-1), 1) := by decide +kernel
theorem dX_riser_36 : decode cX_riser 36 = .ok (.if_icmp .ne 13, 3) := by decide +kernel
theorem dX_riser_39 : decode cX_riser 39 = .ok (.new 133, 3) := by decide +kernel
theorem dX_riser_42 : decode cX_riser 42 = .ok (.dup, 1) := by decide +kernel
theorem dX_riser_43 : decode cX_riser 43 = .ok (.ldc 135, 2) := by decide +kernel
theorem dX_riser_45 : decode cX_riser 45 = .ok (.invokespecial 137, 3) := by decide +kernel
theorem dX_riser_48 : decode cX_riser 48 = .ok (.athrow, 1) := by decide +kernel
theorem dX_riser_49 : decode cX_riser 49 = .ok (.aload_n 0, 1) := by decide +kernel
theorem dX_riser_50 : decode cX_riser 50 = .ok (.getfield 10, 3) := by decide +kernel
theorem dX_riser_53 : decode cX_riser 53 = .ok (.iload_n 1, 1) := by decide +kernel
theorem dX_riser_54 : decode cX_riser 54 = .ok (.iload_n 2, 1) := by decide +kernel
theorem dX_riser_55 : decode cX_riser 55 = .ok (.invokevirtual 138, 3) := by decide +kernel
theorem dX_riser_58 : decode cX_riser 58 = .ok (.iload_n 2, 1) := by decide +kernel
theorem dX_riser_59 : decode cX_riser 59 = .ok (.ireturn, 1) := by decide +kernel
theorem dX_cutOff_0 : decode cX_cutOff 0 = .ok (.aload_n 0, 1) := by decide +kernel
theorem dX_cutOff_1 : decode cX_cutOff 1 = .ok (.iload_n 1, 1) := by decide +kernel
theorem dX_cutOff_2 : decode cX_cutOff 2 = .ok (.invokevirtual 52, 3) := by decide +kernel
theorem dX_cutOff_5 : decode cX_cutOff 5 = .ok (.aload_n 0, 1) := by decide +kernel
theorem dX_cutOff_6 : decode cX_cutOff 6 = .ok (.getfield 10, 3) := by decide +kernel
theorem dX_cutOff_9 : decode cX_cutOff 9 = .ok (.iload_n 1, 1) := by decide +kernel
theorem dX_cutOff_10 : decode cX_cutOff 10 = .ok (.invokevirtual 142, 3) := by decide +kernel
theorem dX_cutOff_13 : decode cX_cutOff 13 = .ok (.iconst (-1), 1) := by decide +kernel
theorem dX_cutOff_14 : decode cX_cutOff 14 = .ok (.if_icmp .ne 13, 3) := by decide +kernel
theorem dX_cutOff_17 : decode cX_cutOff 17 = .ok (.new 96, 3) := by decide +kernel
theorem dX_cutOff_20 : decode cX_cutOff 20 = .ok (.dup, 1) := by decide +kernel
theorem dX_cutOff_21 : decode cX_cutOff 21 = .ok (.ldc 145, 2) := by decide +kernel
theorem dX_cutOff_23 : decode cX_cutOff 23 = .ok (.invokespecial 100, 3) := by decide +kernel
theorem dX_cutOff_26 : decode cX_cutOff 26 = .ok (.athrow, 1) := by decide +kernel
theorem dX_cutOff_27 : decode cX_cutOff 27 = .ok (.aload_n 0, 1) := by decide +kernel
theorem dX_cutOff_28 : decode cX_cutOff 28 = .ok (.getfield 10, 3) := by decide +kernel
theorem dX_cutOff_31 : decode cX_cutOff 31 = .ok (.iload_n 1, 1) := by decide +kernel
theorem dX_cutOff_32 : decode cX_cutOff 32 = .ok (.iconst (-1), 1) := by decide +kernel
theorem dX_cutOff_33 : decode cX_cutOff 33 = .ok (.invokevirtual 138, 3) := by decide +kernel
theorem dX_cutOff_36 : decode cX_cutOff 36 = .ok (.return_, 1) := by decide +kernel
theorem dX_feeder_0 : decode cX_feeder 0 = .ok (.aload_n 0, 1) := by decide +kernel
theorem dX_feeder_1 : decode cX_feeder 1 = .ok (.iload_n 1, 1) := by decide +kernel
theorem dX_feeder_2 : decode cX_feeder 2 = .ok (.invokevirtual 52, 3) := by decide +kernel
theorem dX_feeder_5 : decode cX_feeder 5 = .ok (.aload_n 0, 1) := by decide +kernel
theorem dX_feeder_6 : decode cX_feeder 6 = .ok (.iload_n 1, 1) := by decide +kernel
theorem dX_feeder_7 : decode cX_feeder 7 = .ok (.invokevirtual 147, 3) := by decide +kernel
theorem dX_feeder_10 : decode cX_feeder 10 = .ok (.ireturn, 1) := by decide +kernel
theorem dX_unfed_0 : decode cX_unfed 0 = .ok (.iload_n 1, 1) := by decide +kernel
theorem dX_unfed_1 : decode cX_unfed 1 = .ok (.invokestatic 105, 3) := by decide +kernel
theorem dX_unfed_4 : decode cX_unfed 4 = .ok (.iconst 0, 1) := by decide +kernel
theorem dX_unfed_5 : decode cX_unfed 5 = .ok (.istore_n 2, 1) := by decide +kernel
theorem dX_unfed_6 : decode cX_unfed 6 = .ok (.iconst 0, 1) := by decide +kernel
theorem dX_unfed_7 : decode cX_unfed 7 = .ok (.istore_n 3, 1) := by decide +kernel
theorem dX_unfed_8 : decode cX_unfed 8 = .ok (.iload_n 3, 1) := by decide +kernel
theorem dX_unfed_9 : decode cX_unfed 9 = .ok (.aload_n 0, 1) := by decide +kernel
theorem dX_unfed_10 : decode cX_unfed 10 = .ok (.getfield 10, 3) := by decide +kernel
theorem dX_unfed_13 : decode cX_unfed 13 = .ok (.invokevirtual 108, 3) := by decide +kernel
theorem dX_unfed_16 : decode cX_unfed 16 = .ok (.if_icmp .ge 28, 3) := by decide +kernel
theorem dX_unfed_19 : decode cX_unfed 19 = .ok (.aload_n 0, 1) := by decide +kernel
theorem dX_unfed_20 : decode cX_unfed 20 = .ok (.iload_n 3, 1) := by decide +kernel
theorem dX_unfed_21 : decode cX_unfed 21 = .ok (.invokevirtual 147, 3) := by decide +kernel
theorem dX_unfed_24 : decode cX_unfed 24 = .ok (.iconst (-1), 1) := by decide +kernel
theorem dX_unfed_25 : decode cX_unfed 25 = .ok (.if_icmp .ne 13, 3) := by decide +kernel
theorem dX_unfed_28 : decode cX_unfed 28 = .ok (.iload_n 2, 1) := by decide +kernel
theorem dX_unfed_29 : decode cX_unfed 29 = .ok (.iload_n 1, 1) := by decide +kernel
theorem dX_unfed_30 : decode cX_unfed 30 = .ok (.if_icmp .ne 5, 3) := by decide +kernel
theorem dX_unfed_33 : decode cX_unfed 33 = .ok (.iload_n 3, 1) := by decide +kernel
theorem dX_unfed_34 : decode cX_unfed 34 = .ok (.ireturn, 1) := by decide +kernel
theorem dX_unfed_35 : decode cX_unfed 35 = .ok (.iinc 2 1, 3) := by decide +kernel
theorem dX_unfed_38 : decode cX_unfed 38 = .ok (.iinc 3 1, 3) := by decide +kernel
theorem dX_unfed_41 : decode cX_unfed 41 = .ok (.goto (-33), 3) := by decide +kernel
theorem dX_unfed_44 : decode cX_unfed 44 = .ok (.iconst (-1), 1) := by decide +kernel
theorem dX_unfed_45 : decode cX_unfed 45 = .ok (.ireturn, 1) := by decide +kernel
theorem dX_flowRow_0 : decode cX_flowRow 0 = .ok (.aload_n 0, 1) := by decide +kernel
theorem dX_flowRow_1 : decode cX_flowRow 1 = .ok (.getfield 26, 3) := by decide +kernel
theorem dX_flowRow_4 : decode cX_flowRow 4 = .ok (.invokevirtual 150, 3) := by decide +kernel
theorem dX_flowRow_7 : decode cX_flowRow 7 = .ok (.ifCond .eq 13, 3) := by decide +kernel
theorem dX_flowRow_10 : decode cX_flowRow 10 = .ok (.new 96, 3) := by decide +kernel
theorem dX_flowRow_13 : decode cX_flowRow 13 = .ok (.dup, 1) := by decide +kernel
theorem dX_flowRow_14 : decode cX_flowRow 14 = .ok (.ldc 151, 2) := by decide +kernel
theorem dX_flowRow_16 : decode cX_flowRow 16 = .ok (.invokespecial 100, 3) := by decide +kernel
theorem dX_flowRow_19 : decode cX_flowRow 19 = .ok (.athrow, 1) := by decide +kernel
theorem dX_flowRow_20 : decode cX_flowRow 20 = .ok (.iload_n 1, 1) := by decide +kernel
theorem dX_flowRow_21 : decode cX_flowRow 21 = .ok (.invokestatic 153, 3) := by decide +kernel
theorem dX_flowRow_24 : decode cX_flowRow 24 = .ok (.iload_n 2, 1) := by decide +kernel
theorem dX_flowRow_25 : decode cX_flowRow 25 = .ok (.invokestatic 156, 3) := by decide +kernel
theorem dX_flowRow_28 : decode cX_flowRow 28 = .ok (.aload_n 0, 1) := by decide +kernel
theorem dX_flowRow_29 : decode cX_flowRow 29 = .ok (.getfield 26, 3) := by decide +kernel
theorem dX_flowRow_32 : decode cX_flowRow 32 = .ok (.iload_n 1, 1) := by decide +kernel
theorem dX_flowRow_33 : decode cX_flowRow 33 = .ok (.iload_n 2, 1) := by decide +kernel
theorem dX_flowRow_34 : decode cX_flowRow 34 = .ok (.invokevirtual 159, 3) := by decide +kernel
theorem dX_flowRow_37 : decode cX_flowRow 37 = .ok (.ifCond .ne 13, 3) := by decide +kernel
theorem dX_flowRow_40 : decode cX_flowRow 40 = .ok (.new 133, 3) := by decide +kernel
theorem dX_flowRow_43 : decode cX_flowRow 43 = .ok (.dup, 1) := by decide +kernel
theorem dX_flowRow_44 : decode cX_flowRow 44 = .ok (.ldc 162, 2) := by decide +kernel
theorem dX_flowRow_46 : decode cX_flowRow 46 = .ok (.invokespecial 137, 3) := by decide +kernel
theorem dX_flowRow_49 : decode cX_flowRow 49 = .ok (.athrow, 1) := by decide +kernel
theorem dX_flowRow_50 : decode cX_flowRow 50 = .ok (.aload_n 0, 1) := by decide +kernel
theorem dX_flowRow_51 : decode cX_flowRow 51 = .ok (.getfield 26, 3) := by decide +kernel
theorem dX_flowRow_54 : decode cX_flowRow 54 = .ok (.iload_n 1, 1) := by decide +kernel
theorem dX_flowRow_55 : decode cX_flowRow 55 = .ok (.iload_n 2, 1) := by decide +kernel
theorem dX_flowRow_56 : decode cX_flowRow 56 = .ok (.invokevirtual 164, 3) := by decide +kernel
theorem dX_flowRow_59 : decode cX_flowRow 59 = .ok (.ireturn, 1) := by decide +kernel
theorem dX_flow_0 : decode cX_flow 0 = .ok (.aload_n 0, 1) := by decide +kernel
theorem dX_flow_1 : decode cX_flow 1 = .ok (.invokevirtual 165, 3) := by decide +kernel
theorem dX_flow_4 : decode cX_flow 4 = .ok (.iload_n 1, 1) := by decide +kernel
theorem dX_flow_5 : decode cX_flow 5 = .ok (.invokestatic 153, 3) := by decide +kernel
theorem dX_flow_8 : decode cX_flow 8 = .ok (.aload_n 0, 1) := by decide +kernel
theorem dX_flow_9 : decode cX_flow 9 = .ok (.getfield 26, 3) := by decide +kernel
theorem dX_flow_12 : decode cX_flow 12 = .ok (.iload_n 1, 1) := by decide +kernel
theorem dX_flow_13 : decode cX_flow 13 = .ok (.invokevirtual 168, 3) := by decide +kernel
theorem dX_flow_16 : decode cX_flow 16 = .ok (.ireturn, 1) := by decide +kernel
theorem dX_gate_0 : decode cX_gate 0 = .ok (.aload_n 0, 1) := by decide +kernel
theorem dX_gate_1 : decode cX_gate 1 = .ok (.invokevirtual 165, 3) := by decide +kernel
theorem dX_gate_4 : decode cX_gate 4 = .ok (.iload_n 1, 1) := by decide +kernel
theorem dX_gate_5 : decode cX_gate 5 = .ok (.invokestatic 156, 3) := by decide +kernel
theorem dX_gate_8 : decode cX_gate 8 = .ok (.aload_n 0, 1) := by decide +kernel
theorem dX_gate_9 : decode cX_gate 9 = .ok (.getfield 26, 3) := by decide +kernel
theorem dX_gate_12 : decode cX_gate 12 = .ok (.sipush 10000, 3) := by decide +kernel
theorem dX_gate_15 : decode cX_gate 15 = .ok (.invokevirtual 168, 3) := by decide +kernel
theorem dX_gate_18 : decode cX_gate 18 = .ok (.iload_n 1, 1) := by decide +kernel
theorem dX_gate_19 : decode cX_gate 19 = .ok (.if_icmp .ge 13, 3) := by decide +kernel
theorem dX_gate_22 : decode cX_gate 22 = .ok (.new 133, 3) := by decide +kernel
theorem dX_gate_25 : decode cX_gate 25 = .ok (.dup, 1) := by decide +kernel
theorem dX_gate_26 : decode cX_gate 26 = .ok (.ldc 171, 2) := by decide +kernel
theorem dX_gate_28 : decode cX_gate 28 = .ok (.invokespecial 137, 3) := by decide +kernel
theorem dX_gate_31 : decode cX_gate 31 = .ok (.athrow, 1) := by decide +kernel
theorem dX_gate_32 : decode cX_gate 32 = .ok (.aload_n 0, 1) := by decide +kernel
theorem dX_gate_33 : decode cX_gate 33 = .ok (.getfield 26, 3) := by decide +kernel
theorem dX_gate_36 : decode cX_gate 36 = .ok (.iload_n 1, 1) := by decide +kernel
theorem dX_gate_37 : decode cX_gate 37 = .ok (.invokevirtual 173, 3) := by decide +kernel
theorem dX_gate_40 : decode cX_gate 40 = .ok (.ireturn, 1) := by decide +kernel
theorem dX_pattern_0 : decode cX_pattern 0 = .ok (.iload_n 1, 1) := by decide +kernel
theorem dX_pattern_1 : decode cX_pattern 1 = .ok (.invokestatic 40, 3) := by decide +kernel
theorem dX_pattern_4 : decode cX_pattern 4 = .ok (.iload_n 2, 1) := by decide +kernel
theorem dX_pattern_5 : decode cX_pattern 5 = .ok (.ifCond .lt 9, 3) := by decide +kernel
theorem dX_pattern_8 : decode cX_pattern 8 = .ok (.iload_n 2, 1) := by decide +kernel
theorem dX_pattern_9 : decode cX_pattern 9 = .ok (.bipush 100, 2) := by decide +kernel
theorem dX_pattern_11 : decode cX_pattern 11 = .ok (.if_icmp .le 13, 3) := by decide +kernel
theorem dX_pattern_14 : decode cX_pattern 14 = .ok (.new 66, 3) := by decide +kernel
theorem dX_pattern_17 : decode cX_pattern 17 = .ok (.dup, 1) := by decide +kernel
theorem dX_pattern_18 : decode cX_pattern 18 = .ok (.ldc 176, 2) := by decide +kernel
theorem dX_pattern_20 : decode cX_pattern 20 = .ok (.invokespecial 70, 3) := by decide +kernel
theorem dX_pattern_23 : decode cX_pattern 23 = .ok (.athrow, 1) := by decide +kernel
theorem dX_pattern_24 : decode cX_pattern 24 = .ok (.iload_n 1, 1) := by decide +kernel
theorem dX_pattern_25 : decode cX_pattern 25 = .ok (.sipush 1000, 3) := by decide +kernel
theorem dX_pattern_28 : decode cX_pattern 28 = .ok (.iload_n 2, 1) := by decide +kernel
theorem dX_pattern_29 : decode cX_pattern 29 = .ok (.iadd, 1) := by decide +kernel
theorem dX_pattern_30 : decode cX_pattern 30 = .ok (.imul, 1) := by decide +kernel
theorem dX_pattern_31 : decode cX_pattern 31 = .ok (.sipush 999, 3) := by decide +kernel
theorem dX_pattern_34 : decode cX_pattern 34 = .ok (.iadd, 1) := by decide +kernel
theorem dX_pattern_35 : decode cX_pattern 35 = .ok (.sipush 1000, 3) := by decide +kernel
theorem dX_pattern_38 : decode cX_pattern 38 = .ok (.idiv, 1) := by decide +kernel
theorem dX_pattern_39 : decode cX_pattern 39 = .ok (.ireturn, 1) := by decide +kernel
theorem dX_molding_0 : decode cX_molding 0 = .ok (.iload_n 1, 1) := by decide +kernel
theorem dX_molding_1 : decode cX_molding 1 = .ok (.invokestatic 178, 3) := by decide +kernel
theorem dX_molding_4 : decode cX_molding 4 = .ok (.iload_n 2, 1) := by decide +kernel
theorem dX_molding_5 : decode cX_molding 5 = .ok (.invokestatic 178, 3) := by decide +kernel
theorem dX_molding_8 : decode cX_molding 8 = .ok (.aload_n 0, 1) := by decide +kernel
theorem dX_molding_9 : decode cX_molding 9 = .ok (.getfield 33, 3) := by decide +kernel
theorem dX_molding_12 : decode cX_molding 12 = .ok (.iload_n 1, 1) := by decide +kernel
theorem dX_molding_13 : decode cX_molding 13 = .ok (.iload_n 2, 1) := by decide +kernel
theorem dX_molding_14 : decode cX_molding 14 = .ok (.invokevirtual 181, 3) := by decide +kernel
theorem dX_molding_17 : decode cX_molding 17 = .ok (.return_, 1) := by decide +kernel
theorem dX_pack_0 : decode cX_pack 0 = .ok (.aload_n 0, 1) := by decide +kernel
theorem dX_pack_1 : decode cX_pack 1 = .ok (.getfield 33, 3) := by decide +kernel
theorem dX_pack_4 : decode cX_pack 4 = .ok (.invokevirtual 184, 3) := by decide +kernel
theorem dX_pack_7 : decode cX_pack 7 = .ok (.ifCond .eq 13, 3) := by decide +kernel
theorem dX_pack_10 : decode cX_pack 10 = .ok (.new 96, 3) := by decide +kernel
theorem dX_pack_13 : decode cX_pack 13 = .ok (.dup, 1) := by decide +kernel
theorem dX_pack_14 : decode cX_pack 14 = .ok (.ldc 185, 2) := by decide +kernel
theorem dX_pack_16 : decode cX_pack 16 = .ok (.invokespecial 100, 3) := by decide +kernel
theorem dX_pack_19 : decode cX_pack 19 = .ok (.athrow, 1) := by decide +kernel
theorem dX_pack_20 : decode cX_pack 20 = .ok (.iload_n 1, 1) := by decide +kernel
theorem dX_pack_21 : decode cX_pack 21 = .ok (.invokestatic 178, 3) := by decide +kernel
theorem dX_pack_24 : decode cX_pack 24 = .ok (.iload_n 2, 1) := by decide +kernel
theorem dX_pack_25 : decode cX_pack 25 = .ok (.invokestatic 178, 3) := by decide +kernel
theorem dX_pack_28 : decode cX_pack 28 = .ok (.aload_n 0, 1) := by decide +kernel
theorem dX_pack_29 : decode cX_pack 29 = .ok (.getfield 33, 3) := by decide +kernel
theorem dX_pack_32 : decode cX_pack 32 = .ok (.iload_n 1, 1) := by decide +kernel
theorem dX_pack_33 : decode cX_pack 33 = .ok (.iload_n 2, 1) := by decide +kernel
theorem dX_pack_34 : decode cX_pack 34 = .ok (.invokevirtual 187, 3) := by decide +kernel
theorem dX_pack_37 : decode cX_pack 37 = .ok (.istore_n 3, 1) := by decide +kernel
theorem dX_pack_38 : decode cX_pack 38 = .ok (.iload_n 3, 1) := by decide +kernel
theorem dX_pack_39 : decode cX_pack 39 = .ok (.iconst (-1), 1) := by decide +kernel
theorem dX_pack_40 : decode cX_pack 40 = .ok (.if_icmp .ne 13, 3) := by decide +kernel
theorem dX_pack_43 : decode cX_pack 43 = .ok (.new 133, 3) := by decide +kernel
theorem dX_pack_46 : decode cX_pack 46 = .ok (.dup, 1) := by decide +kernel
theorem dX_pack_47 : decode cX_pack 47 = .ok (.ldc 190, 2) := by decide +kernel
theorem dX_pack_49 : decode cX_pack 49 = .ok (.invokespecial 137, 3) := by decide +kernel
theorem dX_pack_52 : decode cX_pack 52 = .ok (.athrow, 1) := by decide +kernel
theorem dX_pack_53 : decode cX_pack 53 = .ok (.aload_n 0, 1) := by decide +kernel
theorem dX_pack_54 : decode cX_pack 54 = .ok (.getfield 33, 3) := by decide +kernel
theorem dX_pack_57 : decode cX_pack 57 = .ok (.iload_n 3, 1) := by decide +kernel
theorem dX_pack_58 : decode cX_pack 58 = .ok (.iload_n 1, 1) := by decide +kernel
theorem dX_pack_59 : decode cX_pack 59 = .ok (.iload_n 2, 1) := by decide +kernel
theorem dX_pack_60 : decode cX_pack 60 = .ok (.invokevirtual 192, 3) := by decide +kernel
theorem dX_pack_63 : decode cX_pack 63 = .ok (.ireturn, 1) := by decide +kernel
theorem dX_packed_0 : decode cX_packed 0 = .ok (.aload_n 0, 1) := by decide +kernel
theorem dX_packed_1 : decode cX_packed 1 = .ok (.getfield 33, 3) := by decide +kernel
theorem dX_packed_4 : decode cX_packed 4 = .ok (.iload_n 1, 1) := by decide +kernel
theorem dX_packed_5 : decode cX_packed 5 = .ok (.invokevirtual 195, 3) := by decide +kernel
theorem dX_packed_8 : decode cX_packed 8 = .ok (.ifCond .ne 13, 3) := by decide +kernel
theorem dX_packed_11 : decode cX_packed 11 = .ok (.new 59, 3) := by decide +kernel
theorem dX_packed_14 : decode cX_packed 14 = .ok (.dup, 1) := by decide +kernel
theorem dX_packed_15 : decode cX_packed 15 = .ok (.ldc 198, 2) := by decide +kernel
theorem dX_packed_17 : decode cX_packed 17 = .ok (.invokespecial 63, 3) := by decide +kernel
theorem dX_packed_20 : decode cX_packed 20 = .ok (.athrow, 1) := by decide +kernel
theorem dX_packed_21 : decode cX_packed 21 = .ok (.iload_n 2, 1) := by decide +kernel
theorem dX_packed_22 : decode cX_packed 22 = .ok (.ifCond .lt 8, 3) := by decide +kernel
theorem dX_packed_25 : decode cX_packed 25 = .ok (.iload_n 2, 1) := by decide +kernel
theorem dX_packed_26 : decode cX_packed 26 = .ok (.iconst 1, 1) := by decide +kernel
theorem dX_packed_27 : decode cX_packed 27 = .ok (.if_icmp .le 13, 3) := by decide +kernel
theorem dX_packed_30 : decode cX_packed 30 = .ok (.new 59, 3) := by decide +kernel
theorem dX_packed_33 : decode cX_packed 33 = .ok (.dup, 1) := by decide +kernel
theorem dX_packed_34 : decode cX_packed 34 = .ok (.ldc 200, 2) := by decide +kernel
theorem dX_packed_36 : decode cX_packed 36 = .ok (.invokespecial 63, 3) := by decide +kernel
theorem dX_packed_39 : decode cX_packed 39 = .ok (.athrow, 1) := by decide +kernel
theorem dX_packed_40 : decode cX_packed 40 = .ok (.iload_n 2, 1) := by decide +kernel
theorem dX_packed_41 : decode cX_packed 41 = .ok (.ifCond .ne 14, 3) := by decide +kernel
theorem dX_packed_44 : decode cX_packed 44 = .ok (.aload_n 0, 1) := by decide +kernel
theorem dX_packed_45 : decode cX_packed 45 = .ok (.getfield 33, 3) := by decide +kernel
theorem dX_packed_48 : decode cX_packed 48 = .ok (.iload_n 1, 1) := by decide +kernel
theorem dX_packed_49 : decode cX_packed 49 = .ok (.invokevirtual 202, 3) := by decide +kernel
theorem dX_packed_52 : decode cX_packed 52 = .ok (.goto 11, 3) := by decide +kernel
theorem dX_packed_55 : decode cX_packed 55 = .ok (.aload_n 0, 1) := by decide +kernel
theorem dX_packed_56 : decode cX_packed 56 = .ok (.getfield 33, 3) := by decide +kernel
theorem dX_packed_59 : decode cX_packed 59 = .ok (.iload_n 1, 1) := by decide +kernel
theorem dX_packed_60 : decode cX_packed 60 = .ok (.invokevirtual 205, 3) := by decide +kernel
theorem dX_packed_63 : decode cX_packed 63 = .ok (.ireturn, 1) := by decide +kernel
theorem dX_whatFeeds_0 : decode cX_whatFeeds 0 = .ok (.aload_n 0, 1) := by decide +kernel
theorem dX_whatFeeds_1 : decode cX_whatFeeds 1 = .ok (.getfield 10, 3) := by decide +kernel
theorem dX_whatFeeds_4 : decode cX_whatFeeds 4 = .ok (.iload_n 1, 1) := by decide +kernel
theorem dX_whatFeeds_5 : decode cX_whatFeeds 5 = .ok (.invokevirtual 112, 3) := by decide +kernel
theorem dX_whatFeeds_8 : decode cX_whatFeeds 8 = .ok (.ifCond .ne 6, 3) := by decide +kernel
theorem dX_whatFeeds_11 : decode cX_whatFeeds 11 = .ok (.bipush (-2), 2) := by decide +kernel
theorem dX_whatFeeds_13 : decode cX_whatFeeds 13 = .ok (.ireturn, 1) := by decide +kernel
theorem dX_whatFeeds_14 : decode cX_whatFeeds 14 = .ok (.aload_n 0, 1) := by decide +kernel
theorem dX_whatFeeds_15 : decode cX_whatFeeds 15 = .ok (.getfield 10, 3) := by decide +kernel
theorem dX_whatFeeds_18 : decode cX_whatFeeds 18 = .ok (.iload_n 1, 1) := by decide +kernel
theorem dX_whatFeeds_19 : decode cX_whatFeeds 19 = .ok (.invokevirtual 142, 3) := by decide +kernel
theorem dX_whatFeeds_22 : decode cX_whatFeeds 22 = .ok (.istore_n 2, 1) := by decide +kernel
theorem dX_whatFeeds_23 : decode cX_whatFeeds 23 = .ok (.iload_n 2, 1) := by decide +kernel
theorem dX_whatFeeds_24 : decode cX_whatFeeds 24 = .ok (.iconst (-1), 1) := by decide +kernel
theorem dX_whatFeeds_25 : decode cX_whatFeeds 25 = .ok (.if_icmp .ne 14, 3) := by decide +kernel
theorem dX_whatFeeds_28 : decode cX_whatFeeds 28 = .ok (.aload_n 0, 1) := by decide +kernel
theorem dX_whatFeeds_29 : decode cX_whatFeeds 29 = .ok (.getfield 10, 3) := by decide +kernel
theorem dX_whatFeeds_32 : decode cX_whatFeeds 32 = .ok (.iload_n 1, 1) := by decide +kernel
theorem dX_whatFeeds_33 : decode cX_whatFeeds 33 = .ok (.invokevirtual 208, 3) := by decide +kernel
theorem dX_whatFeeds_36 : decode cX_whatFeeds 36 = .ok (.goto 7, 3) := by decide +kernel
theorem dX_whatFeeds_39 : decode cX_whatFeeds 39 = .ok (.bipush 100, 2) := by decide +kernel
theorem dX_whatFeeds_41 : decode cX_whatFeeds 41 = .ok (.iload_n 2, 1) := by decide +kernel
theorem dX_whatFeeds_42 : decode cX_whatFeeds 42 = .ok (.iadd, 1) := by decide +kernel
theorem dX_whatFeeds_43 : decode cX_whatFeeds 43 = .ok (.ireturn, 1) := by decide +kernel
theorem dX_requirePart_0 : decode cX_requirePart 0 = .ok (.aload_n 0, 1) := by decide +kernel
theorem dX_requirePart_1 : decode cX_requirePart 1 = .ok (.getfield 10, 3) := by decide +kernel
theorem dX_requirePart_4 : decode cX_requirePart 4 = .ok (.iload_n 1, 1) := by decide +kernel
theorem dX_requirePart_5 : decode cX_requirePart 5 = .ok (.invokevirtual 211, 3) := by decide +kernel
theorem dX_requirePart_8 : decode cX_requirePart 8 = .ok (.ifCond .ne 13, 3) := by decide +kernel
theorem dX_requirePart_11 : decode cX_requirePart 11 = .ok (.new 59, 3) := by decide +kernel
theorem dX_requirePart_14 : decode cX_requirePart 14 = .ok (.dup, 1) := by decide +kernel
theorem dX_requirePart_15 : decode cX_requirePart 15 = .ok (.ldc 214, 2) := by decide +kernel
theorem dX_requirePart_17 : decode cX_requirePart 17 = .ok (.invokespecial 63, 3) := by decide +kernel
theorem dX_requirePart_20 : decode cX_requirePart 20 = .ok (.athrow, 1) := by decide +kernel
theorem dX_requirePart_21 : decode cX_requirePart 21 = .ok (.return_, 1) := by decide +kernel
theorem dX_requireRoomForPart_0 : decode cX_requireRoomForPart 0 = .ok (.aload_n 0, 1) := by decide +kernel
theorem dX_requireRoomForPart_1 : decode cX_requireRoomForPart 1 = .ok (.getfield 10, 3) := by decide +kernel
theorem dX_requireRoomForPart_4 : decode cX_requireRoomForPart 4 = .ok (.invokevirtual 216, 3) := by decide +kernel
theorem dX_requireRoomForPart_7 : decode cX_requireRoomForPart 7 = .ok (.ifCond .eq 13, 3) := by decide +kernel
theorem dX_requireRoomForPart_10 : decode cX_requireRoomForPart 10 = .ok (.new 96, 3) := by decide +kernel
theorem dX_requireRoomForPart_13 : decode cX_requireRoomForPart 13 = .ok (.dup, 1) := by decide +kernel
theorem dX_requireRoomForPart_14 : decode cX_requireRoomForPart 14 = .ok (.ldc 217, 2) := by decide +kernel
theorem dX_requireRoomForPart_16 : decode cX_requireRoomForPart 16 = .ok (.invokespecial 100, 3) := by decide +kernel
theorem dX_requireRoomForPart_19 : decode cX_requireRoomForPart 19 = .ok (.athrow, 1) := by decide +kernel
theorem dX_requireRoomForPart_20 : decode cX_requireRoomForPart 20 = .ok (.return_, 1) := by decide +kernel
theorem dX_requireTold_0 : decode cX_requireTold 0 = .ok (.aload_n 0, 1) := by decide +kernel
theorem dX_requireTold_1 : decode cX_requireTold 1 = .ok (.getfield 10, 3) := by decide +kernel
theorem dX_requireTold_4 : decode cX_requireTold 4 = .ok (.iload_n 1, 1) := by decide +kernel
theorem dX_requireTold_5 : decode cX_requireTold 5 = .ok (.invokevirtual 112, 3) := by decide +kernel
theorem dX_requireTold_8 : decode cX_requireTold 8 = .ok (.ifCond .ne 13, 3) := by decide +kernel
theorem dX_requireTold_11 : decode cX_requireTold 11 = .ok (.new 133, 3) := by decide +kernel
theorem dX_requireTold_14 : decode cX_requireTold 14 = .ok (.dup, 1) := by decide +kernel
theorem dX_requireTold_15 : decode cX_requireTold 15 = .ok (.ldc 219, 2) := by decide +kernel
theorem dX_requireTold_17 : decode cX_requireTold 17 = .ok (.invokespecial 137, 3) := by decide +kernel
theorem dX_requireTold_20 : decode cX_requireTold 20 = .ok (.athrow, 1) := by decide +kernel
theorem dX_requireTold_21 : decode cX_requireTold 21 = .ok (.return_, 1) := by decide +kernel
theorem dX_requireFlowRows_0 : decode cX_requireFlowRows 0 = .ok (.aload_n 0, 1) := by decide +kernel
theorem dX_requireFlowRows_1 : decode cX_requireFlowRows 1 = .ok (.getfield 26, 3) := by decide +kernel
theorem dX_requireFlowRows_4 : decode cX_requireFlowRows 4 = .ok (.invokevirtual 221, 3) := by decide +kernel
theorem dX_requireFlowRows_7 : decode cX_requireFlowRows 7 = .ok (.ifCond .eq 13, 3) := by decide +kernel
theorem dX_requireFlowRows_10 : decode cX_requireFlowRows 10 = .ok (.new 96, 3) := by decide +kernel
theorem dX_requireFlowRows_13 : decode cX_requireFlowRows 13 = .ok (.dup, 1) := by decide +kernel
theorem dX_requireFlowRows_14 : decode cX_requireFlowRows 14 = .ok (.ldc 224, 2) := by decide +kernel
theorem dX_requireFlowRows_16 : decode cX_requireFlowRows 16 = .ok (.invokespecial 100, 3) := by decide +kernel
theorem dX_requireFlowRows_19 : decode cX_requireFlowRows 19 = .ok (.athrow, 1) := by decide +kernel
theorem dX_requireFlowRows_20 : decode cX_requireFlowRows 20 = .ok (.return_, 1) := by decide +kernel
theorem dX_requireNotBelowZero_0 : decode cX_requireNotBelowZero 0 = .ok (.iload_n 0, 1) := by decide +kernel
theorem dX_requireNotBelowZero_1 : decode cX_requireNotBelowZero 1 = .ok (.ifCond .ge 13, 3) := by decide +kernel
theorem dX_requireNotBelowZero_4 : decode cX_requireNotBelowZero 4 = .ok (.new 59, 3) := by decide +kernel
theorem dX_requireNotBelowZero_7 : decode cX_requireNotBelowZero 7 = .ok (.dup, 1) := by decide +kernel
theorem dX_requireNotBelowZero_8 : decode cX_requireNotBelowZero 8 = .ok (.ldc 226, 2) := by decide +kernel
theorem dX_requireNotBelowZero_10 : decode cX_requireNotBelowZero 10 = .ok (.invokespecial 63, 3) := by decide +kernel
theorem dX_requireNotBelowZero_13 : decode cX_requireNotBelowZero 13 = .ok (.athrow, 1) := by decide +kernel
theorem dX_requireNotBelowZero_14 : decode cX_requireNotBelowZero 14 = .ok (.return_, 1) := by decide +kernel
theorem dX_requireSize_0 : decode cX_requireSize 0 = .ok (.iload_n 0, 1) := by decide +kernel
theorem dX_requireSize_1 : decode cX_requireSize 1 = .ok (.iconst 1, 1) := by decide +kernel
theorem dX_requireSize_2 : decode cX_requireSize 2 = .ok (.if_icmp .lt 10, 3) := by decide +kernel
theorem dX_requireSize_5 : decode cX_requireSize 5 = .ok (.iload_n 0, 1) := by decide +kernel
theorem dX_requireSize_6 : decode cX_requireSize 6 = .ok (.sipush 1000, 3) := by decide +kernel
theorem dX_requireSize_9 : decode cX_requireSize 9 = .ok (.if_icmp .le 13, 3) := by decide +kernel
theorem dX_requireSize_12 : decode cX_requireSize 12 = .ok (.new 66, 3) := by decide +kernel
theorem dX_requireSize_15 : decode cX_requireSize 15 = .ok (.dup, 1) := by decide +kernel
theorem dX_requireSize_16 : decode cX_requireSize 16 = .ok (.ldc 228, 2) := by decide +kernel
theorem dX_requireSize_18 : decode cX_requireSize 18 = .ok (.invokespecial 70, 3) := by decide +kernel
theorem dX_requireSize_21 : decode cX_requireSize 21 = .ok (.athrow, 1) := by decide +kernel
theorem dX_requireSize_22 : decode cX_requireSize 22 = .ok (.return_, 1) := by decide +kernel
theorem dX_requireOpening_0 : decode cX_requireOpening 0 = .ok (.iload_n 0, 1) := by decide +kernel
theorem dX_requireOpening_1 : decode cX_requireOpening 1 = .ok (.ifCond .lt 10, 3) := by decide +kernel
theorem dX_requireOpening_4 : decode cX_requireOpening 4 = .ok (.iload_n 0, 1) := by decide +kernel
theorem dX_requireOpening_5 : decode cX_requireOpening 5 = .ok (.sipush 10000, 3) := by decide +kernel
theorem dX_requireOpening_8 : decode cX_requireOpening 8 = .ok (.if_icmp .le 13, 3) := by decide +kernel
theorem dX_requireOpening_11 : decode cX_requireOpening 11 = .ok (.new 66, 3) := by decide +kernel
theorem dX_requireOpening_14 : decode cX_requireOpening 14 = .ok (.dup, 1) := by decide +kernel
theorem dX_requireOpening_15 : decode cX_requireOpening 15 = .ok (.ldc 230, 2) := by decide +kernel
theorem dX_requireOpening_17 : decode cX_requireOpening 17 = .ok (.invokespecial 70, 3) := by decide +kernel
theorem dX_requireOpening_20 : decode cX_requireOpening 20 = .ok (.athrow, 1) := by decide +kernel
theorem dX_requireOpening_21 : decode cX_requireOpening 21 = .ok (.return_, 1) := by decide +kernel
theorem dX_requireFlow_0 : decode cX_requireFlow 0 = .ok (.iload_n 0, 1) := by decide +kernel
theorem dX_requireFlow_1 : decode cX_requireFlow 1 = .ok (.ifCond .lt 9, 3) := by decide +kernel
theorem dX_requireFlow_4 : decode cX_requireFlow 4 = .ok (.iload_n 0, 1) := by decide +kernel
theorem dX_requireFlow_5 : decode cX_requireFlow 5 = .ok (.ldc 232, 2) := by decide +kernel
theorem dX_requireFlow_7 : decode cX_requireFlow 7 = .ok (.if_icmp .le 13, 3) := by decide +kernel
theorem dX_requireFlow_10 : decode cX_requireFlow 10 = .ok (.new 66, 3) := by decide +kernel
theorem dX_requireFlow_13 : decode cX_requireFlow 13 = .ok (.dup, 1) := by decide +kernel
theorem dX_requireFlow_14 : decode cX_requireFlow 14 = .ok (.ldc 233, 2) := by decide +kernel
theorem dX_requireFlow_16 : decode cX_requireFlow 16 = .ok (.invokespecial 70, 3) := by decide +kernel
theorem dX_requireFlow_19 : decode cX_requireFlow 19 = .ok (.athrow, 1) := by decide +kernel
theorem dX_requireFlow_20 : decode cX_requireFlow 20 = .ok (.return_, 1) := by decide +kernel
theorem dX_requireMoldingSize_0 : decode cX_requireMoldingSize 0 = .ok (.iload_n 0, 1) := by decide +kernel
theorem dX_requireMoldingSize_1 : decode cX_requireMoldingSize 1 = .ok (.iconst 1, 1) := by decide +kernel
theorem dX_requireMoldingSize_2 : decode cX_requireMoldingSize 2 = .ok (.if_icmp .lt 10, 3) := by decide +kernel
theorem dX_requireMoldingSize_5 : decode cX_requireMoldingSize 5 = .ok (.iload_n 0, 1) := by decide +kernel
theorem dX_requireMoldingSize_6 : decode cX_requireMoldingSize 6 = .ok (.sipush 2000, 3) := by decide +kernel
theorem dX_requireMoldingSize_9 : decode cX_requireMoldingSize 9 = .ok (.if_icmp .le 13, 3) := by decide +kernel
theorem dX_requireMoldingSize_12 : decode cX_requireMoldingSize 12 = .ok (.new 66, 3) := by decide +kernel
theorem dX_requireMoldingSize_15 : decode cX_requireMoldingSize 15 = .ok (.dup, 1) := by decide +kernel
theorem dX_requireMoldingSize_16 : decode cX_requireMoldingSize 16 = .ok (.ldc 235, 2) := by decide +kernel
theorem dX_requireMoldingSize_18 : decode cX_requireMoldingSize 18 = .ok (.invokespecial 70, 3) := by decide +kernel
theorem dX_requireMoldingSize_21 : decode cX_requireMoldingSize 21 = .ok (.athrow, 1) := by decide +kernel
theorem dX_requireMoldingSize_22 : decode cX_requireMoldingSize 22 = .ok (.return_, 1) := by decide +kernel
theorem dX_inLowestTerms_0 : decode cX_inLowestTerms 0 = .ok (.iload 4, 2) := by decide +kernel
theorem dX_inLowestTerms_2 : decode cX_inLowestTerms 2 = .ok (.ifCond .ne 7, 3) := by decide +kernel
theorem dX_inLowestTerms_5 : decode cX_inLowestTerms 5 = .ok (.lload_n 0, 1) := by decide +kernel
theorem dX_inLowestTerms_6 : decode cX_inLowestTerms 6 = .ok (.goto 4, 3) := by decide +kernel
theorem dX_inLowestTerms_9 : decode cX_inLowestTerms 9 = .ok (.lload_n 2, 1) := by decide +kernel
theorem dX_inLowestTerms_10 : decode cX_inLowestTerms 10 = .ok (.lstore 5, 2) := by decide +kernel
theorem dX_inLowestTerms_12 : decode cX_inLowestTerms 12 = .ok (.lload_n 0, 1) := by decide +kernel
theorem dX_inLowestTerms_13 : decode cX_inLowestTerms 13 = .ok (.lload_n 2, 1) := by decide +kernel
theorem dX_inLowestTerms_14 : decode cX_inLowestTerms 14 = .ok (.invokestatic 237, 3) := by decide +kernel
theorem dX_inLowestTerms_17 : decode cX_inLowestTerms 17 = .ok (.lstore 7, 2) := by decide +kernel
theorem dX_inLowestTerms_19 : decode cX_inLowestTerms 19 = .ok (.lload 7, 2) := by decide +kernel
theorem dX_inLowestTerms_21 : decode cX_inLowestTerms 21 = .ok (.lconst 0, 1) := by decide +kernel
theorem dX_inLowestTerms_22 : decode cX_inLowestTerms 22 = .ok (.lcmp, 1) := by decide +kernel
theorem dX_inLowestTerms_23 : decode cX_inLowestTerms 23 = .ok (.ifCond .le 11, 3) := by decide +kernel
theorem dX_inLowestTerms_26 : decode cX_inLowestTerms 26 = .ok (.lload 5, 2) := by decide +kernel
theorem dX_inLowestTerms_28 : decode cX_inLowestTerms 28 = .ok (.lload 7, 2) := by decide +kernel
theorem dX_inLowestTerms_30 : decode cX_inLowestTerms 30 = .ok (.ldiv, 1) := by decide +kernel
theorem dX_inLowestTerms_31 : decode cX_inLowestTerms 31 = .ok (.goto 5, 3) := by decide +kernel
theorem dX_inLowestTerms_34 : decode cX_inLowestTerms 34 = .ok (.lload 5, 2) := by decide +kernel
theorem dX_inLowestTerms_36 : decode cX_inLowestTerms 36 = .ok (.lreturn, 1) := by decide +kernel
theorem dX_greatestDivisor_0 : decode cX_greatestDivisor 0 = .ok (.lload_n 0, 1) := by decide +kernel
theorem dX_greatestDivisor_1 : decode cX_greatestDivisor 1 = .ok (.lstore 4, 2) := by decide +kernel
theorem dX_greatestDivisor_3 : decode cX_greatestDivisor 3 = .ok (.lload_n 2, 1) := by decide +kernel
theorem dX_greatestDivisor_4 : decode cX_greatestDivisor 4 = .ok (.lstore 6, 2) := by decide +kernel
theorem dX_greatestDivisor_6 : decode cX_greatestDivisor 6 = .ok (.iconst 0, 1) := by decide +kernel
theorem dX_greatestDivisor_7 : decode cX_greatestDivisor 7 = .ok (.istore 8, 2) := by decide +kernel
theorem dX_greatestDivisor_9 : decode cX_greatestDivisor 9 = .ok (.iload 8, 2) := by decide +kernel
theorem dX_greatestDivisor_11 : decode cX_greatestDivisor 11 = .ok (.bipush 100, 2) := by decide +kernel
theorem dX_greatestDivisor_13 : decode cX_greatestDivisor 13 = .ok (.if_icmp .ge 31, 3) := by decide +kernel
theorem dX_greatestDivisor_16 : decode cX_greatestDivisor 16 = .ok (.lload 6, 2) := by decide +kernel
theorem dX_greatestDivisor_18 : decode cX_greatestDivisor 18 = .ok (.lconst 0, 1) := by decide +kernel
theorem dX_greatestDivisor_19 : decode cX_greatestDivisor 19 = .ok (.lcmp, 1) := by decide +kernel
theorem dX_greatestDivisor_20 : decode cX_greatestDivisor 20 = .ok (.ifCond .eq 24, 3) := by decide +kernel
theorem dX_greatestDivisor_23 : decode cX_greatestDivisor 23 = .ok (.lload 4, 2) := by decide +kernel
theorem dX_greatestDivisor_25 : decode cX_greatestDivisor 25 = .ok (.lload 6, 2) := by decide +kernel
theorem dX_greatestDivisor_27 : decode cX_greatestDivisor 27 = .ok (.lrem, 1) := by decide +kernel
theorem dX_greatestDivisor_28 : decode cX_greatestDivisor 28 = .ok (.lstore 9, 2) := by decide +kernel
theorem dX_greatestDivisor_30 : decode cX_greatestDivisor 30 = .ok (.lload 6, 2) := by decide +kernel
theorem dX_greatestDivisor_32 : decode cX_greatestDivisor 32 = .ok (.lstore 4, 2) := by decide +kernel
theorem dX_greatestDivisor_34 : decode cX_greatestDivisor 34 = .ok (.lload 9, 2) := by decide +kernel
theorem dX_greatestDivisor_36 : decode cX_greatestDivisor 36 = .ok (.lstore 6, 2) := by decide +kernel
theorem dX_greatestDivisor_38 : decode cX_greatestDivisor 38 = .ok (.iinc 8 1, 3) := by decide +kernel
theorem dX_greatestDivisor_41 : decode cX_greatestDivisor 41 = .ok (.goto (-32), 3) := by decide +kernel
theorem dX_greatestDivisor_44 : decode cX_greatestDivisor 44 = .ok (.lload 4, 2) := by decide +kernel
theorem dX_greatestDivisor_46 : decode cX_greatestDivisor 46 = .ok (.lreturn, 1) := by decide +kernel
end
section
abbrev rmX_requireRoomForPart : Room := { frames := 1, cells := 0, slots := 0, locals := 20 }
set_option maxRecDepth 100000 in
set_option maxHeartbeats 4000000 in
theorem kX_requireRoomForPart {l : Launch} {D : va_G} {k : ClassId × ClassId × ClassId} {a : Nat → Nat} {B0 : Nat} {w : Nat → va_E} (hA : gA B0 a) {n : Nat} {up : Nat → Int64} {lo : Nat → Int64} {fa : Nat → Int32} {we : Nat → Int32} {ti : Nat → Int32} {ri : Nat → Int32} {jo : Nat → Int32} (hsX : sX k a w ) (hsP : sP k a w n up lo fa we ti ri jo) (hn : n < 12) : Met l yX_requireRoomForPart (tbw yX_requireRoomForPart cX_requireRoomForPart 1 none) rmX_requireRoomForPart (gPc D k a B0 w [.ref (a 0)]) (va_Qv (roV w) (gB D k a) (gF B0)) 0 0 (gF B0) := by
  have hsX0 := hsX
  obtain ⟨hsP1, hsP2, hsP3, hsP4, hsP5, hsP6, hsP7, hsP8⟩ := hsP
  refine g_ofW (by decide) rfl (fun p e s m args below meth c Q hQ hx hb hr hlk hml hown hts hB hG hK hS ls hl => ?_)
  have hl : lv_has ls 1 [(0, .ref (a 0))] := hl
  have hown : s.vm.findClass RX = some m.cls := hown
  refine lv_aload_n hx hb dX_requireRoomForPart_0 rfl (lv_at hl 0 rfl) ?_
  refine g_get hx hb hts inX hown hK hG 0 (by decide) hsX0 rfl 0 (by decide) lkX_10 rfl dX_requireRoomForPart_1 ?_
  refine g_ViR (i := 1) (As := []) (rest := []) (kP_isFull hA ⟨hsP1, hsP2, hsP3, hsP4, hsP5, hsP6, hsP7, hsP8⟩ (by omega)) calP_isFull cvP_isFull mlX_216 hx hb hml hown hts hB hG hK hS (by decide) hsP1 rfl ⟨by decide, by decide⟩ rfl hl.1 rfl (Nat.le_of_ble_eq_true rfl) dX_requireRoomForPart_4 ⟨by decide, by decide⟩ (fun H locs hG hS => ?_)
  refine lb_if_eq (tgt := 20) hx hb dX_requireRoomForPart_7 (by decide) (fun c1 => ?_) (fun c1 => ?_)
  · exact g_vret hQ hx hb hr hlk hG hK hS (by decide) (by decide) ⟨trivial, rfl⟩ dX_requireRoomForPart_20
  · exfalso
    first | omega | contradiction | (simp_all; done) | grind

abbrev rmX_requireRoomForPart_b : Room := { frames := 6, cells := 1, slots := 6, locals := 82 }
set_option maxRecDepth 100000 in
set_option maxHeartbeats 4000000 in
theorem kX_requireRoomForPart_b {l : Launch} (hl9 : l.stackTraces = false) {D : va_G} {k : ClassId × ClassId × ClassId} {a : Nat → Nat} {B0 : Nat} {w : Nat → va_E} (hA : gA B0 a) {n : Nat} {up : Nat → Int64} {lo : Nat → Int64} {fa : Nat → Int32} {we : Nat → Int32} {ti : Nat → Int32} {ri : Nat → Int32} {jo : Nat → Int32} (hsX : sX k a w ) (hsP : sP k a w n up lo fa we ti ri jo) (hn : n = 12) : xMet l yX_requireRoomForPart cX_requireRoomForPart 1 none rmX_requireRoomForPart_b D k a B0 w [.ref (a 0)] eISE := by
  have hsX0 := hsX
  obtain ⟨hsP1, hsP2, hsP3, hsP4, hsP5, hsP6, hsP7, hsP8⟩ := hsP
  refine x_ofW (by decide) rfl (fun p e s m args below meth c Q hQ htab hx hb hr hlk hml hown hts hB hG hK hS hXS ls hl => ?_)
  have hl : lv_has ls 1 [(0, .ref (a 0))] := hl
  have hown : s.vm.findClass RX = some m.cls := hown
  refine lv_aload_n hx hb dX_requireRoomForPart_0 rfl (lv_at hl 0 rfl) ?_
  refine g_get hx hb hts inX hown hK hG 0 (by decide) hsX0 rfl 0 (by decide) lkX_10 rfl dX_requireRoomForPart_1 ?_
  refine g_ViR (i := 1) (As := []) (rest := []) (kP_isFull hA ⟨hsP1, hsP2, hsP3, hsP4, hsP5, hsP6, hsP7, hsP8⟩ (by omega)) calP_isFull cvP_isFull mlX_216 hx hb hml hown hts hB hG hK hS (by decide) hsP1 rfl ⟨by decide, by decide⟩ rfl hl.1 rfl (Nat.le_of_ble_eq_true rfl) dX_requireRoomForPart_4 ⟨by decide, by decide⟩ (fun H locs hG hS => ?_)
  refine lb_if_eq (tgt := 20) hx hb dX_requireRoomForPart_7 (by decide) (fun c1 => ?_) (fun c1 => ?_)
  · exfalso
    first | omega | contradiction | (simp_all; done) | grind
  · exact x_throw hQ hl9 xok_eISE (show ((217 : Nat), "there are 12 parts") ∈ xStr by decide +kernel) hx hb hml hown hts hG hK hS hXS hlk htab hl.1 dX_requireRoomForPart_10 dX_requireRoomForPart_13 dX_requireRoomForPart_14 dX_requireRoomForPart_16 dX_requireRoomForPart_19 (by decide) (by decide) (by decide) (by decide) (by decide) (by decide)

abbrev rmX_requirePart : Room := { frames := 1, cells := 0, slots := 0, locals := 21 }
set_option maxRecDepth 100000 in
set_option maxHeartbeats 4000000 in
theorem kX_requirePart {l : Launch} {D : va_G} {k : ClassId × ClassId × ClassId} {a : Nat → Nat} {B0 : Nat} {w : Nat → va_E} (hA : gA B0 a) {n : Nat} {up : Nat → Int64} {lo : Nat → Int64} {fa : Nat → Int32} {we : Nat → Int32} {ti : Nat → Int32} {ri : Nat → Int32} {jo : Nat → Int32} (hsX : sX k a w ) (hsP : sP k a w n up lo fa we ti ri jo) (j : Nat) (hj : j < n) (hn : n ≤ 12) : Met l yX_requirePart (tbw yX_requirePart cX_requirePart 2 none) rmX_requirePart (gPc D k a B0 w [.ref (a 0), .int (nI j)]) (va_Qv (roV w) (gB D k a) (gF B0)) 0 0 (gF B0) := by
  have hsX0 := hsX
  obtain ⟨hsP1, hsP2, hsP3, hsP4, hsP5, hsP6, hsP7, hsP8⟩ := hsP
  refine g_ofW (by decide) rfl (fun p e s m args below meth c Q hQ hx hb hr hlk hml hown hts hB hG hK hS ls hl => ?_)
  have hl : lv_has ls 2 [(0, .ref (a 0)), (1, .int (nI j))] := hl
  have hown : s.vm.findClass RX = some m.cls := hown
  refine lv_aload_n hx hb dX_requirePart_0 rfl (lv_at hl 0 rfl) ?_
  refine g_get hx hb hts inX hown hK hG 0 (by decide) hsX0 rfl 0 (by decide) lkX_10 rfl dX_requirePart_1 ?_
  refine lv_iload_n hx hb dX_requirePart_4 rfl (lv_at hl 1 rfl) ?_
  refine g_ViR (i := 1) (As := [.int (nI j)]) (rest := []) (kP_has hA ⟨hsP1, hsP2, hsP3, hsP4, hsP5, hsP6, hsP7, hsP8⟩ (nI j)) calP_has cvP_has mlX_211 hx hb hml hown hts hB hG hK hS (by decide) hsP1 rfl ⟨by decide, by decide⟩ rfl hl.1 rfl (Nat.le_of_ble_eq_true rfl) dX_requirePart_5 ⟨by decide, by decide⟩ (fun H locs hG hS => ?_)
  refine lb_if_ne (tgt := 21) hx hb dX_requirePart_8 (by decide) (fun c1 => ?_) (fun c1 => ?_)
  · exact g_vret hQ hx hb hr hlk hG hK hS (by decide) (by decide) ⟨trivial, rfl⟩ dX_requirePart_21
  · exfalso
    exact (by assumption : ¬ (¬ nI j < 0 ∧ ¬ nI n ≤ nI j)) ⟨nI_pos (by omega), nI_ge (by omega) (by omega)⟩

abbrev rmX_requirePart_b : Room := { frames := 6, cells := 1, slots := 6, locals := 82 }
set_option maxRecDepth 100000 in
set_option maxHeartbeats 4000000 in
theorem kX_requirePart_b {l : Launch} (hl9 : l.stackTraces = false) {D : va_G} {k : ClassId × ClassId × ClassId} {a : Nat → Nat} {B0 : Nat} {w : Nat → va_E} (hA : gA B0 a) {n : Nat} {up : Nat → Int64} {lo : Nat → Int64} {fa : Nat → Int32} {we : Nat → Int32} {ti : Nat → Int32} {ri : Nat → Int32} {jo : Nat → Int32} (hsX : sX k a w ) (hsP : sP k a w n up lo fa we ti ri jo) (q : Int32) (hq : ¬ (¬ q < 0 ∧ ¬ nI n ≤ q)) : xMet l yX_requirePart cX_requirePart 2 none rmX_requirePart_b D k a B0 w [.ref (a 0), .int q] eIOB := by
  have hsX0 := hsX
  obtain ⟨hsP1, hsP2, hsP3, hsP4, hsP5, hsP6, hsP7, hsP8⟩ := hsP
  refine x_ofW (by decide) rfl (fun p e s m args below meth c Q hQ htab hx hb hr hlk hml hown hts hB hG hK hS hXS ls hl => ?_)
  have hl : lv_has ls 2 [(0, .ref (a 0)), (1, .int q)] := hl
  have hown : s.vm.findClass RX = some m.cls := hown
  refine lv_aload_n hx hb dX_requirePart_0 rfl (lv_at hl 0 rfl) ?_
  refine g_get hx hb hts inX hown hK hG 0 (by decide) hsX0 rfl 0 (by decide) lkX_10 rfl dX_requirePart_1 ?_
  refine lv_iload_n hx hb dX_requirePart_4 rfl (lv_at hl 1 rfl) ?_
  refine g_ViR (i := 1) (As := [.int q]) (rest := []) (kP_has hA ⟨hsP1, hsP2, hsP3, hsP4, hsP5, hsP6, hsP7, hsP8⟩ q) calP_has cvP_has mlX_211 hx hb hml hown hts hB hG hK hS (by decide) hsP1 rfl ⟨by decide, by decide⟩ rfl hl.1 rfl (Nat.le_of_ble_eq_true rfl) dX_requirePart_5 ⟨by decide, by decide⟩ (fun H locs hG hS => ?_)
  refine lb_if_ne (tgt := 21) hx hb dX_requirePart_8 (by decide) (fun c1 => ?_) (fun c1 => ?_)
  · exfalso
    first | omega | contradiction | (simp_all; done) | grind
  · exact x_throw hQ hl9 xok_eIOB (show ((214 : Nat), "no such part") ∈ xStr by decide +kernel) hx hb hml hown hts hG hK hS hXS hlk htab hl.1 dX_requirePart_11 dX_requirePart_14 dX_requirePart_15 dX_requirePart_17 dX_requirePart_20 (by decide) (by decide) (by decide) (by decide) (by decide) (by decide)

abbrev rmX_requireTold : Room := { frames := 1, cells := 0, slots := 0, locals := 21 }
set_option maxRecDepth 100000 in
set_option maxHeartbeats 4000000 in
theorem kX_requireTold {l : Launch} {D : va_G} {k : ClassId × ClassId × ClassId} {a : Nat → Nat} {B0 : Nat} {w : Nat → va_E} (hA : gA B0 a) {n : Nat} {up : Nat → Int64} {lo : Nat → Int64} {fa : Nat → Int32} {we : Nat → Int32} {ti : Nat → Int32} {ri : Nat → Int32} {jo : Nat → Int32} (hsX : sX k a w ) (hsP : sP k a w n up lo fa we ti ri jo) (j : Nat) (hj : j < 12) (ht : 0 < lo j) : Met l yX_requireTold (tbw yX_requireTold cX_requireTold 2 none) rmX_requireTold (gPc D k a B0 w [.ref (a 0), .int (nI j)]) (va_Qv (roV w) (gB D k a) (gF B0)) 0 0 (gF B0) := by
  have hsX0 := hsX
  obtain ⟨hsP1, hsP2, hsP3, hsP4, hsP5, hsP6, hsP7, hsP8⟩ := hsP
  refine g_ofW (by decide) rfl (fun p e s m args below meth c Q hQ hx hb hr hlk hml hown hts hB hG hK hS ls hl => ?_)
  have hl : lv_has ls 2 [(0, .ref (a 0)), (1, .int (nI j))] := hl
  have hown : s.vm.findClass RX = some m.cls := hown
  refine lv_aload_n hx hb dX_requireTold_0 rfl (lv_at hl 0 rfl) ?_
  refine g_get hx hb hts inX hown hK hG 0 (by decide) hsX0 rfl 0 (by decide) lkX_10 rfl dX_requireTold_1 ?_
  refine lv_iload_n hx hb dX_requireTold_4 rfl (lv_at hl 1 rfl) ?_
  refine g_ViR (i := 1) (As := [.int (nI j)]) (rest := []) (kP_isTold hA ⟨hsP1, hsP2, hsP3, hsP4, hsP5, hsP6, hsP7, hsP8⟩ j (by omega)) calP_isTold cvP_isTold mlX_112 hx hb hml hown hts hB hG hK hS (by decide) hsP1 rfl ⟨by decide, by decide⟩ rfl hl.1 rfl (Nat.le_of_ble_eq_true rfl) dX_requireTold_5 ⟨by decide, by decide⟩ (fun H locs hG hS => ?_)
  refine lb_if_ne (tgt := 21) hx hb dX_requireTold_8 (by decide) (fun c1 => ?_) (fun c1 => ?_)
  · exact g_vret hQ hx hb hr hlk hG hK hS (by decide) (by decide) ⟨trivial, rfl⟩ dX_requireTold_21
  · exfalso
    first | omega | contradiction | (simp_all; done) | grind

abbrev rmX_requireTold_b : Room := { frames := 6, cells := 1, slots := 6, locals := 82 }
set_option maxRecDepth 100000 in
set_option maxHeartbeats 4000000 in
theorem kX_requireTold_b {l : Launch} (hl9 : l.stackTraces = false) {D : va_G} {k : ClassId × ClassId × ClassId} {a : Nat → Nat} {B0 : Nat} {w : Nat → va_E} (hA : gA B0 a) {n : Nat} {up : Nat → Int64} {lo : Nat → Int64} {fa : Nat → Int32} {we : Nat → Int32} {ti : Nat → Int32} {ri : Nat → Int32} {jo : Nat → Int32} (hsX : sX k a w ) (hsP : sP k a w n up lo fa we ti ri jo) (j : Nat) (hj : j < 12) (ht : ¬ 0 < lo j) : xMet l yX_requireTold cX_requireTold 2 none rmX_requireTold_b D k a B0 w [.ref (a 0), .int (nI j)] eUOE := by
  have hsX0 := hsX
  obtain ⟨hsP1, hsP2, hsP3, hsP4, hsP5, hsP6, hsP7, hsP8⟩ := hsP
  refine x_ofW (by decide) rfl (fun p e s m args below meth c Q hQ htab hx hb hr hlk hml hown hts hB hG hK hS hXS ls hl => ?_)
  have hl : lv_has ls 2 [(0, .ref (a 0)), (1, .int (nI j))] := hl
  have hown : s.vm.findClass RX = some m.cls := hown
  refine lv_aload_n hx hb dX_requireTold_0 rfl (lv_at hl 0 rfl) ?_
  refine g_get hx hb hts inX hown hK hG 0 (by decide) hsX0 rfl 0 (by decide) lkX_10 rfl dX_requireTold_1 ?_
  refine lv_iload_n hx hb dX_requireTold_4 rfl (lv_at hl 1 rfl) ?_
  refine g_ViR (i := 1) (As := [.int (nI j)]) (rest := []) (kP_isTold hA ⟨hsP1, hsP2, hsP3, hsP4, hsP5, hsP6, hsP7, hsP8⟩ j (by omega)) calP_isTold cvP_isTold mlX_112 hx hb hml hown hts hB hG hK hS (by decide) hsP1 rfl ⟨by decide, by decide⟩ rfl hl.1 rfl (Nat.le_of_ble_eq_true rfl) dX_requireTold_5 ⟨by decide, by decide⟩ (fun H locs hG hS => ?_)
  refine lb_if_ne (tgt := 21) hx hb dX_requireTold_8 (by decide) (fun c1 => ?_) (fun c1 => ?_)
  · exfalso
    first | omega | contradiction | (simp_all; done) | grind
  · exact x_throw hQ hl9 xok_eUOE (show ((219 : Nat), "no face of the part cools") ∈ xStr by decide +kernel) hx hb hml hown hts hG hK hS hXS hlk htab hl.1 dX_requireTold_11 dX_requireTold_14 dX_requireTold_15 dX_requireTold_17 dX_requireTold_20 (by decide) (by decide) (by decide) (by decide) (by decide) (by decide)

abbrev rmX_requireFlowRows : Room := { frames := 1, cells := 0, slots := 0, locals := 20 }
set_option maxRecDepth 100000 in
set_option maxHeartbeats 4000000 in
theorem kX_requireFlowRows {l : Launch} {D : va_G} {k : ClassId × ClassId × ClassId} {a : Nat → Nat} {B0 : Nat} {w : Nat → va_E} (hA : gA B0 a) {nf : Nat} {fo : Nat → Int32} {ff : Nat → Int32} (hsX : sX k a w ) (hsF : sF k a w nf fo ff) (h0 : 0 < nf) (hn : nf ≤ 8) : Met l yX_requireFlowRows (tbw yX_requireFlowRows cX_requireFlowRows 1 none) rmX_requireFlowRows (gPc D k a B0 w [.ref (a 0)]) (va_Qv (roV w) (gB D k a) (gF B0)) 0 0 (gF B0) := by
  have hsX0 := hsX
  obtain ⟨hsF12, hsF13, hsF14⟩ := hsF
  refine g_ofW (by decide) rfl (fun p e s m args below meth c Q hQ hx hb hr hlk hml hown hts hB hG hK hS ls hl => ?_)
  have hl : lv_has ls 1 [(0, .ref (a 0))] := hl
  have hown : s.vm.findClass RX = some m.cls := hown
  refine lv_aload_n hx hb dX_requireFlowRows_0 rfl (lv_at hl 0 rfl) ?_
  refine g_get hx hb hts inX hown hK hG 0 (by decide) hsX0 rfl 2 (by decide) lkX_26 rfl dX_requireFlowRows_1 ?_
  refine g_ViR (i := 12) (As := []) (rest := []) (kF_isEmpty hA ⟨hsF12, hsF13, hsF14⟩ (by omega)) calF_isEmpty cvF_isEmpty mlX_221 hx hb hml hown hts hB hG hK hS (by decide) hsF12 rfl ⟨by decide, by decide⟩ rfl hl.1 rfl (Nat.le_of_ble_eq_true rfl) dX_requireFlowRows_4 ⟨by decide, by decide⟩ (fun H locs hG hS => ?_)
  refine lb_if_eq (tgt := 20) hx hb dX_requireFlowRows_7 (by decide) (fun c1 => ?_) (fun c1 => ?_)
  · exact g_vret hQ hx hb hr hlk hG hK hS (by decide) (by decide) ⟨trivial, rfl⟩ dX_requireFlowRows_20
  · exfalso
    first | omega | contradiction | (simp_all; done) | grind

abbrev rmX_requireFlowRows_b : Room := { frames := 6, cells := 1, slots := 6, locals := 82 }
set_option maxRecDepth 100000 in
set_option maxHeartbeats 4000000 in
theorem kX_requireFlowRows_b {l : Launch} (hl9 : l.stackTraces = false) {D : va_G} {k : ClassId × ClassId × ClassId} {a : Nat → Nat} {B0 : Nat} {w : Nat → va_E} (hA : gA B0 a) {nf : Nat} {fo : Nat → Int32} {ff : Nat → Int32} (hsX : sX k a w ) (hsF : sF k a w nf fo ff) (h0 : nf = 0) : xMet l yX_requireFlowRows cX_requireFlowRows 1 none rmX_requireFlowRows_b D k a B0 w [.ref (a 0)] eISE := by
  have hsX0 := hsX
  obtain ⟨hsF12, hsF13, hsF14⟩ := hsF
  refine x_ofW (by decide) rfl (fun p e s m args below meth c Q hQ htab hx hb hr hlk hml hown hts hB hG hK hS hXS ls hl => ?_)
  have hl : lv_has ls 1 [(0, .ref (a 0))] := hl
  have hown : s.vm.findClass RX = some m.cls := hown
  refine lv_aload_n hx hb dX_requireFlowRows_0 rfl (lv_at hl 0 rfl) ?_
  refine g_get hx hb hts inX hown hK hG 0 (by decide) hsX0 rfl 2 (by decide) lkX_26 rfl dX_requireFlowRows_1 ?_
  refine g_ViR (i := 12) (As := []) (rest := []) (kF_isEmpty hA ⟨hsF12, hsF13, hsF14⟩ (by omega)) calF_isEmpty cvF_isEmpty mlX_221 hx hb hml hown hts hB hG hK hS (by decide) hsF12 rfl ⟨by decide, by decide⟩ rfl hl.1 rfl (Nat.le_of_ble_eq_true rfl) dX_requireFlowRows_4 ⟨by decide, by decide⟩ (fun H locs hG hS => ?_)
  refine lb_if_eq (tgt := 20) hx hb dX_requireFlowRows_7 (by decide) (fun c1 => ?_) (fun c1 => ?_)
  · exfalso
    first | omega | contradiction | (simp_all; done) | grind
  · exact x_throw hQ hl9 xok_eISE (show ((224 : Nat), "there are no flow rows") ∈ xStr by decide +kernel) hx hb hml hown hts hG hK hS hXS hlk htab hl.1 dX_requireFlowRows_10 dX_requireFlowRows_13 dX_requireFlowRows_14 dX_requireFlowRows_16 dX_requireFlowRows_19 (by decide) (by decide) (by decide) (by decide) (by decide) (by decide)

abbrev rmX_requireNotBelowZero : Room := { frames := 0, cells := 0, slots := 0, locals := 0 }
set_option maxRecDepth 100000 in
set_option maxHeartbeats 4000000 in
theorem kX_requireNotBelowZero {l : Launch} {D : va_G} {k : ClassId × ClassId × ClassId} {a : Nat → Nat} {B0 : Nat} {w : Nat → va_E} (hA : gA B0 a)  (q : Int32) (hq : ¬ q < 0) : Met l yX_requireNotBelowZero (tbw yX_requireNotBelowZero cX_requireNotBelowZero 1 none) rmX_requireNotBelowZero (gPc D k a B0 w [.int q]) (va_Qv (roV w) (gB D k a) (gF B0)) 0 0 (gF B0) := by
  refine g_ofW (by decide) rfl (fun p e s m args below meth c Q hQ hx hb hr hlk hml hown hts hB hG hK hS ls hl => ?_)
  have hl : lv_has ls 1 [(0, .int q)] := hl
  have hown : s.vm.findClass RX = some m.cls := hown
  refine lv_iload_n hx hb dX_requireNotBelowZero_0 rfl (lv_at hl 0 rfl) ?_
  refine lv_if_ge (tgt := 14) hx hb dX_requireNotBelowZero_1 (by decide) (fun c1 => ?_) (fun c1 => ?_)
  · exact g_vret hQ hx hb hr hlk hG hK hS (by decide) (by decide) ⟨trivial, rfl⟩ dX_requireNotBelowZero_14
  · exfalso
    first | omega | contradiction | (simp_all; done) | grind

abbrev rmX_requireNotBelowZero_b : Room := { frames := 6, cells := 1, slots := 6, locals := 82 }
set_option maxRecDepth 100000 in
set_option maxHeartbeats 4000000 in
theorem kX_requireNotBelowZero_b {l : Launch} (hl9 : l.stackTraces = false) {D : va_G} {k : ClassId × ClassId × ClassId} {a : Nat → Nat} {B0 : Nat} {w : Nat → va_E} (hA : gA B0 a) (q : Int32) (hq : q < 0) : xMet l yX_requireNotBelowZero cX_requireNotBelowZero 1 none rmX_requireNotBelowZero_b D k a B0 w [.int q] eIOB := by
  refine x_ofW (by decide) rfl (fun p e s m args below meth c Q hQ htab hx hb hr hlk hml hown hts hB hG hK hS hXS ls hl => ?_)
  have hl : lv_has ls 1 [(0, .int q)] := hl
  have hown : s.vm.findClass RX = some m.cls := hown
  refine lv_iload_n hx hb dX_requireNotBelowZero_0 rfl (lv_at hl 0 rfl) ?_
  refine lv_if_ge (tgt := 14) hx hb dX_requireNotBelowZero_1 (by decide) (fun c1 => ?_) (fun c1 => ?_)
  · exfalso
    first | omega | contradiction | (simp_all; done) | grind
  · exact x_throw hQ hl9 xok_eIOB (show ((226 : Nat), "below 0") ∈ xStr by decide +kernel) hx hb hml hown hts hG hK hS hXS hlk htab hl.1 dX_requireNotBelowZero_4 dX_requireNotBelowZero_7 dX_requireNotBelowZero_8 dX_requireNotBelowZero_10 dX_requireNotBelowZero_13 (by decide) (by decide) (by decide) (by decide) (by decide) (by decide)

abbrev rmX_requireSize : Room := { frames := 0, cells := 0, slots := 0, locals := 0 }
set_option maxRecDepth 100000 in
set_option maxHeartbeats 4000000 in
theorem kX_requireSize {l : Launch} {D : va_G} {k : ClassId × ClassId × ClassId} {a : Nat → Nat} {B0 : Nat} {w : Nat → va_E} (hA : gA B0 a)  (x : Int32) (hz : szR x) : Met l yX_requireSize (tbw yX_requireSize cX_requireSize 1 none) rmX_requireSize (gPc D k a B0 w [.int x]) (va_Qv (roV w) (gB D k a) (gF B0)) 0 0 (gF B0) := by
  refine g_ofW (by decide) rfl (fun p e s m args below meth c Q hQ hx hb hr hlk hml hown hts hB hG hK hS ls hl => ?_)
  have hl : lv_has ls 1 [(0, .int x)] := hl
  have hown : s.vm.findClass RX = some m.cls := hown
  refine lv_iload_n hx hb dX_requireSize_0 rfl (lv_at hl 0 rfl) ?_
  refine lv_iconst (v := 1) hx hb dX_requireSize_1 (by decide) ?_
  refine lv_icmp_lt (tgt := 12) hx hb dX_requireSize_2 (by decide) (fun c1 => ?_) (fun c1 => ?_)
  · exfalso
    first | exact absurd (by assumption) hz.1 | exact absurd (Int32.not_le.mp (by assumption)) hz.2
  · refine lv_iload_n hx hb dX_requireSize_5 rfl (lv_at hl 0 rfl) ?_
    refine lv_sipush (v := 1000) hx hb dX_requireSize_6 (by decide) ?_
    refine lv_icmp_le (tgt := 22) hx hb dX_requireSize_9 (by decide) (fun c2 => ?_) (fun c2 => ?_)
    · exact g_vret hQ hx hb hr hlk hG hK hS (by decide) (by decide) ⟨trivial, rfl⟩ dX_requireSize_22
    · exfalso
      first | exact absurd (by assumption) hz.1 | exact absurd (Int32.not_le.mp (by assumption)) hz.2

abbrev rmX_requireSize_b : Room := { frames := 6, cells := 1, slots := 6, locals := 82 }
set_option maxRecDepth 100000 in
set_option maxHeartbeats 4000000 in
theorem kX_requireSize_b {l : Launch} (hl9 : l.stackTraces = false) {D : va_G} {k : ClassId × ClassId × ClassId} {a : Nat → Nat} {B0 : Nat} {w : Nat → va_E} (hA : gA B0 a) (x : Int32) (hz : ¬ szR x) : xMet l yX_requireSize cX_requireSize 1 none rmX_requireSize_b D k a B0 w [.int x] eIAE := by
  refine x_ofW (by decide) rfl (fun p e s m args below meth c Q hQ htab hx hb hr hlk hml hown hts hB hG hK hS hXS ls hl => ?_)
  have hl : lv_has ls 1 [(0, .int x)] := hl
  have hown : s.vm.findClass RX = some m.cls := hown
  refine lv_iload_n hx hb dX_requireSize_0 rfl (lv_at hl 0 rfl) ?_
  refine lv_iconst (v := 1) hx hb dX_requireSize_1 (by decide) ?_
  refine lv_icmp_lt (tgt := 12) hx hb dX_requireSize_2 (by decide) (fun c1 => ?_) (fun c1 => ?_)
  · exact x_throw hQ hl9 xok_eIAE (show ((228 : Nat), "a size is 1 to 1,000 millimetres") ∈ xStr by decide +kernel) hx hb hml hown hts hG hK hS hXS hlk htab hl.1 dX_requireSize_12 dX_requireSize_15 dX_requireSize_16 dX_requireSize_18 dX_requireSize_21 (by decide) (by decide) (by decide) (by decide) (by decide) (by decide)
  · refine lv_iload_n hx hb dX_requireSize_5 rfl (lv_at hl 0 rfl) ?_
    refine lv_sipush (v := 1000) hx hb dX_requireSize_6 (by decide) ?_
    refine lv_icmp_le (tgt := 22) hx hb dX_requireSize_9 (by decide) (fun c2 => ?_) (fun c2 => ?_)
    · exfalso
      exact hz ⟨by assumption, Int32.not_lt.mpr (by assumption)⟩
    · exact x_throw hQ hl9 xok_eIAE (show ((228 : Nat), "a size is 1 to 1,000 millimetres") ∈ xStr by decide +kernel) hx hb hml hown hts hG hK hS hXS hlk htab hl.1 dX_requireSize_12 dX_requireSize_15 dX_requireSize_16 dX_requireSize_18 dX_requireSize_21 (by decide) (by decide) (by decide) (by decide) (by decide) (by decide)

abbrev rmX_requireOpening : Room := { frames := 0, cells := 0, slots := 0, locals := 0 }
set_option maxRecDepth 100000 in
set_option maxHeartbeats 4000000 in
theorem kX_requireOpening {l : Launch} {D : va_G} {k : ClassId × ClassId × ClassId} {a : Nat → Nat} {B0 : Nat} {w : Nat → va_E} (hA : gA B0 a)  (x : Int32) (hz : opR x) : Met l yX_requireOpening (tbw yX_requireOpening cX_requireOpening 1 none) rmX_requireOpening (gPc D k a B0 w [.int x]) (va_Qv (roV w) (gB D k a) (gF B0)) 0 0 (gF B0) := by
  refine g_ofW (by decide) rfl (fun p e s m args below meth c Q hQ hx hb hr hlk hml hown hts hB hG hK hS ls hl => ?_)
  have hl : lv_has ls 1 [(0, .int x)] := hl
  have hown : s.vm.findClass RX = some m.cls := hown
  refine lv_iload_n hx hb dX_requireOpening_0 rfl (lv_at hl 0 rfl) ?_
  refine lv_if_lt (tgt := 11) hx hb dX_requireOpening_1 (by decide) (fun c1 => ?_) (fun c1 => ?_)
  · exfalso
    first | exact absurd (by assumption) hz.1 | exact absurd (Int32.not_le.mp (by assumption)) hz.2
  · refine lv_iload_n hx hb dX_requireOpening_4 rfl (lv_at hl 0 rfl) ?_
    refine lv_sipush (v := 10000) hx hb dX_requireOpening_5 (by decide) ?_
    refine lv_icmp_le (tgt := 21) hx hb dX_requireOpening_8 (by decide) (fun c2 => ?_) (fun c2 => ?_)
    · exact g_vret hQ hx hb hr hlk hG hK hS (by decide) (by decide) ⟨trivial, rfl⟩ dX_requireOpening_21
    · exfalso
      first | exact absurd (by assumption) hz.1 | exact absurd (Int32.not_le.mp (by assumption)) hz.2

abbrev rmX_requireOpening_b : Room := { frames := 6, cells := 1, slots := 6, locals := 82 }
set_option maxRecDepth 100000 in
set_option maxHeartbeats 4000000 in
theorem kX_requireOpening_b {l : Launch} (hl9 : l.stackTraces = false) {D : va_G} {k : ClassId × ClassId × ClassId} {a : Nat → Nat} {B0 : Nat} {w : Nat → va_E} (hA : gA B0 a) (x : Int32) (hz : ¬ opR x) : xMet l yX_requireOpening cX_requireOpening 1 none rmX_requireOpening_b D k a B0 w [.int x] eIAE := by
  refine x_ofW (by decide) rfl (fun p e s m args below meth c Q hQ htab hx hb hr hlk hml hown hts hB hG hK hS hXS ls hl => ?_)
  have hl : lv_has ls 1 [(0, .int x)] := hl
  have hown : s.vm.findClass RX = some m.cls := hown
  refine lv_iload_n hx hb dX_requireOpening_0 rfl (lv_at hl 0 rfl) ?_
  refine lv_if_lt (tgt := 11) hx hb dX_requireOpening_1 (by decide) (fun c1 => ?_) (fun c1 => ?_)
  · exact x_throw hQ hl9 xok_eIAE (show ((230 : Nat), "an opening is 0 to 10,000") ∈ xStr by decide +kernel) hx hb hml hown hts hG hK hS hXS hlk htab hl.1 dX_requireOpening_11 dX_requireOpening_14 dX_requireOpening_15 dX_requireOpening_17 dX_requireOpening_20 (by decide) (by decide) (by decide) (by decide) (by decide) (by decide)
  · refine lv_iload_n hx hb dX_requireOpening_4 rfl (lv_at hl 0 rfl) ?_
    refine lv_sipush (v := 10000) hx hb dX_requireOpening_5 (by decide) ?_
    refine lv_icmp_le (tgt := 21) hx hb dX_requireOpening_8 (by decide) (fun c2 => ?_) (fun c2 => ?_)
    · exfalso
      exact hz ⟨by assumption, Int32.not_lt.mpr (by assumption)⟩
    · exact x_throw hQ hl9 xok_eIAE (show ((230 : Nat), "an opening is 0 to 10,000") ∈ xStr by decide +kernel) hx hb hml hown hts hG hK hS hXS hlk htab hl.1 dX_requireOpening_11 dX_requireOpening_14 dX_requireOpening_15 dX_requireOpening_17 dX_requireOpening_20 (by decide) (by decide) (by decide) (by decide) (by decide) (by decide)

abbrev rmX_requireFlow : Room := { frames := 0, cells := 0, slots := 0, locals := 0 }
set_option maxRecDepth 100000 in
set_option maxHeartbeats 4000000 in
theorem kX_requireFlow {l : Launch} {D : va_G} {k : ClassId × ClassId × ClassId} {a : Nat → Nat} {B0 : Nat} {w : Nat → va_E} (hA : gA B0 a)  (x : Int32) (hz : flR x) : Met l yX_requireFlow (tbw yX_requireFlow cX_requireFlow 1 none) rmX_requireFlow (gPc D k a B0 w [.int x]) (va_Qv (roV w) (gB D k a) (gF B0)) 0 0 (gF B0) := by
  refine g_ofW (by decide) rfl (fun p e s m args below meth c Q hQ hx hb hr hlk hml hown hts hB hG hK hS ls hl => ?_)
  have hl : lv_has ls 1 [(0, .int x)] := hl
  have hown : s.vm.findClass RX = some m.cls := hown
  refine lv_iload_n hx hb dX_requireFlow_0 rfl (lv_at hl 0 rfl) ?_
  refine lv_if_lt (tgt := 10) hx hb dX_requireFlow_1 (by decide) (fun c1 => ?_) (fun c1 => ?_)
  · exfalso
    first | exact absurd (by assumption) hz.1 | exact absurd (Int32.not_le.mp (by assumption)) hz.2
  · refine lv_iload_n hx hb dX_requireFlow_4 rfl (lv_at hl 0 rfl) ?_
    refine lv_ldc (v := 1000000) hx hb hown (hts _ kcX_232) dX_requireFlow_5 ?_
    refine lv_icmp_le (tgt := 20) hx hb dX_requireFlow_7 (by decide) (fun c2 => ?_) (fun c2 => ?_)
    · exact g_vret hQ hx hb hr hlk hG hK hS (by decide) (by decide) ⟨trivial, rfl⟩ dX_requireFlow_20
    · exfalso
      first | exact absurd (by assumption) hz.1 | exact absurd (Int32.not_le.mp (by assumption)) hz.2

abbrev rmX_requireFlow_b : Room := { frames := 6, cells := 1, slots := 6, locals := 82 }
set_option maxRecDepth 100000 in
set_option maxHeartbeats 4000000 in
theorem kX_requireFlow_b {l : Launch} (hl9 : l.stackTraces = false) {D : va_G} {k : ClassId × ClassId × ClassId} {a : Nat → Nat} {B0 : Nat} {w : Nat → va_E} (hA : gA B0 a) (x : Int32) (hz : ¬ flR x) : xMet l yX_requireFlow cX_requireFlow 1 none rmX_requireFlow_b D k a B0 w [.int x] eIAE := by
  refine x_ofW (by decide) rfl (fun p e s m args below meth c Q hQ htab hx hb hr hlk hml hown hts hB hG hK hS hXS ls hl => ?_)
  have hl : lv_has ls 1 [(0, .int x)] := hl
  have hown : s.vm.findClass RX = some m.cls := hown
  refine lv_iload_n hx hb dX_requireFlow_0 rfl (lv_at hl 0 rfl) ?_
  refine lv_if_lt (tgt := 10) hx hb dX_requireFlow_1 (by decide) (fun c1 => ?_) (fun c1 => ?_)
  · exact x_throw hQ hl9 xok_eIAE (show ((233 : Nat), "a flow is 0 to 1,000,000") ∈ xStr by decide +kernel) hx hb hml hown hts hG hK hS hXS hlk htab hl.1 dX_requireFlow_10 dX_requireFlow_13 dX_requireFlow_14 dX_requireFlow_16 dX_requireFlow_19 (by decide) (by decide) (by decide) (by decide) (by decide) (by decide)
  · refine lv_iload_n hx hb dX_requireFlow_4 rfl (lv_at hl 0 rfl) ?_
    refine lv_ldc (v := 1000000) hx hb hown (hts _ kcX_232) dX_requireFlow_5 ?_
    refine lv_icmp_le (tgt := 20) hx hb dX_requireFlow_7 (by decide) (fun c2 => ?_) (fun c2 => ?_)
    · exfalso
      exact hz ⟨by assumption, Int32.not_lt.mpr (by assumption)⟩
    · exact x_throw hQ hl9 xok_eIAE (show ((233 : Nat), "a flow is 0 to 1,000,000") ∈ xStr by decide +kernel) hx hb hml hown hts hG hK hS hXS hlk htab hl.1 dX_requireFlow_10 dX_requireFlow_13 dX_requireFlow_14 dX_requireFlow_16 dX_requireFlow_19 (by decide) (by decide) (by decide) (by decide) (by decide) (by decide)

abbrev rmX_requireMoldingSize : Room := { frames := 0, cells := 0, slots := 0, locals := 0 }
set_option maxRecDepth 100000 in
set_option maxHeartbeats 4000000 in
theorem kX_requireMoldingSize {l : Launch} {D : va_G} {k : ClassId × ClassId × ClassId} {a : Nat → Nat} {B0 : Nat} {w : Nat → va_E} (hA : gA B0 a)  (x : Int32) (hz : wdR x) : Met l yX_requireMoldingSize (tbw yX_requireMoldingSize cX_requireMoldingSize 1 none) rmX_requireMoldingSize (gPc D k a B0 w [.int x]) (va_Qv (roV w) (gB D k a) (gF B0)) 0 0 (gF B0) := by
  refine g_ofW (by decide) rfl (fun p e s m args below meth c Q hQ hx hb hr hlk hml hown hts hB hG hK hS ls hl => ?_)
  have hl : lv_has ls 1 [(0, .int x)] := hl
  have hown : s.vm.findClass RX = some m.cls := hown
  refine lv_iload_n hx hb dX_requireMoldingSize_0 rfl (lv_at hl 0 rfl) ?_
  refine lv_iconst (v := 1) hx hb dX_requireMoldingSize_1 (by decide) ?_
  refine lv_icmp_lt (tgt := 12) hx hb dX_requireMoldingSize_2 (by decide) (fun c1 => ?_) (fun c1 => ?_)
  · exfalso
    first | exact absurd (by assumption) hz.1 | exact absurd (Int32.not_le.mp (by assumption)) hz.2
  · refine lv_iload_n hx hb dX_requireMoldingSize_5 rfl (lv_at hl 0 rfl) ?_
    refine lv_sipush (v := 2000) hx hb dX_requireMoldingSize_6 (by decide) ?_
    refine lv_icmp_le (tgt := 22) hx hb dX_requireMoldingSize_9 (by decide) (fun c2 => ?_) (fun c2 => ?_)
    · exact g_vret hQ hx hb hr hlk hG hK hS (by decide) (by decide) ⟨trivial, rfl⟩ dX_requireMoldingSize_22
    · exfalso
      first | exact absurd (by assumption) hz.1 | exact absurd (Int32.not_le.mp (by assumption)) hz.2

abbrev rmX_requireMoldingSize_b : Room := { frames := 6, cells := 1, slots := 6, locals := 82 }
set_option maxRecDepth 100000 in
set_option maxHeartbeats 4000000 in
theorem kX_requireMoldingSize_b {l : Launch} (hl9 : l.stackTraces = false) {D : va_G} {k : ClassId × ClassId × ClassId} {a : Nat → Nat} {B0 : Nat} {w : Nat → va_E} (hA : gA B0 a) (x : Int32) (hz : ¬ wdR x) : xMet l yX_requireMoldingSize cX_requireMoldingSize 1 none rmX_requireMoldingSize_b D k a B0 w [.int x] eIAE := by
  refine x_ofW (by decide) rfl (fun p e s m args below meth c Q hQ htab hx hb hr hlk hml hown hts hB hG hK hS hXS ls hl => ?_)
  have hl : lv_has ls 1 [(0, .int x)] := hl
  have hown : s.vm.findClass RX = some m.cls := hown
  refine lv_iload_n hx hb dX_requireMoldingSize_0 rfl (lv_at hl 0 rfl) ?_
  refine lv_iconst (v := 1) hx hb dX_requireMoldingSize_1 (by decide) ?_
  refine lv_icmp_lt (tgt := 12) hx hb dX_requireMoldingSize_2 (by decide) (fun c1 => ?_) (fun c1 => ?_)
  · exact x_throw hQ hl9 xok_eIAE (show ((235 : Nat), "a molding's size is 1 to 2,000") ∈ xStr by decide +kernel) hx hb hml hown hts hG hK hS hXS hlk htab hl.1 dX_requireMoldingSize_12 dX_requireMoldingSize_15 dX_requireMoldingSize_16 dX_requireMoldingSize_18 dX_requireMoldingSize_21 (by decide) (by decide) (by decide) (by decide) (by decide) (by decide)
  · refine lv_iload_n hx hb dX_requireMoldingSize_5 rfl (lv_at hl 0 rfl) ?_
    refine lv_sipush (v := 2000) hx hb dX_requireMoldingSize_6 (by decide) ?_
    refine lv_icmp_le (tgt := 22) hx hb dX_requireMoldingSize_9 (by decide) (fun c2 => ?_) (fun c2 => ?_)
    · exfalso
      exact hz ⟨by assumption, Int32.not_lt.mpr (by assumption)⟩
    · exact x_throw hQ hl9 xok_eIAE (show ((235 : Nat), "a molding's size is 1 to 2,000") ∈ xStr by decide +kernel) hx hb hml hown hts hG hK hS hXS hlk htab hl.1 dX_requireMoldingSize_12 dX_requireMoldingSize_15 dX_requireMoldingSize_16 dX_requireMoldingSize_18 dX_requireMoldingSize_21 (by decide) (by decide) (by decide) (by decide) (by decide) (by decide)
end
section
noncomputable def rFeed (up lo : Nat → Int64) (ri jo : Nat → Int32) (n j : Nat) : Int32 := @ite Int32 (0 < lo j) (Classical.propDecidable _) (@ite Int32 (ri j = -1) (Classical.propDecidable _) (rNbI up lo jo n j) (100 + ri j)) (-2)
def rOrdP (up lo : Nat → Int64) (n : Nat) (q : Int32) (i : Nat) : Prop := 0 < lo i ∧ nI (rBef up lo n i) = q
noncomputable def unF (F : Nat → Int32) (q : Int32) : Nat → Nat → Nat → Int32
  | 0, _, _ => -1
  | k + 1, i, b => @ite Int32 (F i = -1) (Classical.propDecidable _) (@ite Int32 (nI b = q) (Classical.propDecidable _) (nI i) (unF F q k (i + 1) (b + 1))) (unF F q k (i + 1) b)
theorem unF_n {F : Nat → Int32} {q : Int32} {k i b : Nat} (h : ¬ F i = -1) : unF F q (k + 1) i b = unF F q k (i + 1) b := if_neg h
theorem unF_y {F : Nat → Int32} {q : Int32} {k i b : Nat} (h : F i = -1) (h2 : nI b = q) : unF F q (k + 1) i b = nI i := (if_pos h).trans (if_pos h2)
theorem unF_s {F : Nat → Int32} {q : Int32} {k i b : Nat} (h : F i = -1) (h2 : ¬ nI b = q) : unF F q (k + 1) i b = unF F q k (i + 1) (b + 1) := (if_pos h).trans (if_neg h2)
noncomputable def lowT (u v : Int64) (q : Int32) : Int64 := @ite Int64 (0 < gcF 100 u v) (Classical.propDecidable _) ((@ite Int64 (q = 0) (Classical.propDecidable _) u v) / gcF 100 u v) (@ite Int64 (q = 0) (Classical.propDecidable _) u v)
theorem lowT_1 {u v : Int64} {q : Int32} (h : 0 < gcF 100 u v) (h2 : q = 0) : lowT u v q = u / gcF 100 u v := by unfold lowT; rw [if_pos h, if_pos h2]
theorem lowT_2 {u v : Int64} {q : Int32} (h : 0 < gcF 100 u v) (h2 : ¬ q = 0) : lowT u v q = v / gcF 100 u v := by unfold lowT; rw [if_pos h, if_neg h2]
theorem lowT_3 {u v : Int64} {q : Int32} (h : ¬ 0 < gcF 100 u v) (h2 : q = 0) : lowT u v q = u := by unfold lowT; rw [if_neg h, if_pos h2]
theorem lowT_4 {u v : Int64} {q : Int32} (h : ¬ 0 < gcF 100 u v) (h2 : ¬ q = 0) : lowT u v q = v := by unfold lowT; rw [if_neg h, if_neg h2]
theorem i64pos_ne {x : Int64} (h : 0 < x) : ¬ x = 0 := fun q => by rw [q] at h; exact absurd h (by decide)
noncomputable def rPk (tw td : Nat → Int32) (j : Nat) (q : Int32) : Int32 := @ite Int32 (q = 0) (Classical.propDecidable _) (tw j) (td j)
theorem nI_nm1 {i : Nat} (h : i < 2 ^ 31) : ¬ nI i = -1 := fun q => by
  have h1 := congrArg Int32.toInt q
  rw [nI_toInt h] at h1
  have h2 : (-1 : Int32).toInt = -1 := by decide
  omega
end
section
abbrev rmM_putOn_o : Room := { frames := 1, cells := 0, slots := 0, locals := 21 }
set_option maxRecDepth 100000 in
set_option maxHeartbeats 4000000 in
theorem kM_putOn_o {l : Launch} {D : va_G} {k : ClassId × ClassId × ClassId} {a : Nat → Nat} {B0 : Nat} {w : Nat → va_E} (hA : gA B0 a) {bw : Int32} {bd : Int32} {bu : Int32} {nt : Nat} {ns : Nat} {tw : Nat → Int32} {td : Nat → Int32} {sb : Nat → Int32} {sd : Nat → Int32} {su : Nat → Int32} (hsM : sM k a w bw bd bu nt ns tw td sb sd su) (i : Nat) (x : Int32) (y : Int32) (hi : i < ns) (hns : ns ≤ 40) (hnt : nt < 40) : Met l yM_putOn (tbw yM_putOn cM_putOn 5 (some .int)) rmM_putOn_o (gPc D k a B0 w [.ref (a 15), .int (nI i), .int x, .int y]) (va_Qi (fun r w1 => r = (nI nt) ∧ (sM k a w1 bw bd bu (nt + 1) ns (upd tw nt (su i)) (upd td nt (sb i)) sb sd (upd su i (su i + x))) ∧ ∀ z, z < 15 ∨ 20 < z → w1 z = w z) (gB D k a) (gF B0)) 0 0 (gF B0) := by
  obtain ⟨hsM15, hsM16, hsM17, hsM18, hsM19, hsM20⟩ := hsM
  refine g_ofW (by decide) rfl (fun p e s m args below meth c Q hQ hx hb hr hlk hml hown hts hB hG hK hS ls hl => ?_)
  have hl : lv_has ls 5 [(0, .ref (a 15)), (1, .int (nI i)), (2, .int x), (3, .int y)] := hl
  have hown : s.vm.findClass RM = some m.cls := hown
  have hfr0 : ∀ z, z < 15 ∨ 20 < z → w z = w z := fun _ _ => rfl
  refine lv_iload_n hx hb dM_putOn_0 rfl (lv_at hl 1 rfl) ?_
  refine lv_aload_n hx hb dM_putOn_1 rfl (lv_at hl 0 rfl) ?_
  refine g_get hx hb hts inM hown hK hG 15 (by decide) hsM15 rfl 9 (by decide) lkM_40 rfl dM_putOn_2 ?_
  refine ln_icmp_ne (x := i) (y := ns) (tgt := 13) hx hb dM_putOn_5 (by decide) (by omega) (by omega) (fun c1 => ?_) (fun c1 => ?_)
  · refine lv_aload_n hx hb dM_putOn_13 rfl (lv_at hl 0 rfl) ?_
    refine g_get hx hb hts inM hown hK hG 15 (by decide) hsM15 rfl 8 (by decide) lkM_37 rfl dM_putOn_14 ?_
    refine lv_istore (lv' := [(4, .int (nI nt)), (0, .ref (a 15)), (1, .int (nI i)), (2, .int x), (3, .int y)]) hx hb dM_putOn_17 hl (by decide) rfl (fun ls hl => ?_)
    refine lv_aload_n hx hb dM_putOn_19 rfl (lv_at hl 1 rfl) ?_
    refine lv_dup hx hb dM_putOn_20 rfl ?_
    refine g_get hx hb hts inM hown hK hG 15 (by decide) hsM15 rfl 8 (by decide) lkM_37 rfl dM_putOn_21 ?_
    refine lv_iconst (v := 1) hx hb dM_putOn_24 (by decide) ?_
    refine ln_iadd (x := nt) (y := 1) hx hb dM_putOn_25 ?_
    refine g_put hx hb hts inM tyM tokM nokM hown hK hA hG hS 15 (by decide) hsM15 rfl 8 (by decide) lkM_37 rfl (ty := .int) (by decide +kernel) rfl rfl (Nat.le_of_ble_eq_true rfl) dM_putOn_26 (fun H locs hG hS => ?_)
    obtain ⟨w2, hw3⟩ : ∃ zz9, zz9 = va_up w 15 (.inr (4, [.ref (a 16), .ref (a 17), .ref (a 18), .ref (a 19), .ref (a 20), .int bw, .int bd, .int bu, .int (nI (nt + 1)), .int (nI ns)])) := ⟨_, rfl⟩
    replace hG : gW D a w2 H := by rw [hw3]; exact hG
    have h4 : w2 15 = .inr (4, [.ref (a 16), .ref (a 17), .ref (a 18), .ref (a 19), .ref (a 20), .int bw, .int bd, .int bu, .int (nI (nt + 1)), .int (nI ns)]) := by rw [hw3]; rfl
    have h5 : w2 16 = .inl (k.1, 40, .inl tw) := by rw [hw3]; exact hsM16
    have h6 : w2 17 = .inl (k.1, 40, .inl td) := by rw [hw3]; exact hsM17
    have h7 : w2 18 = .inl (k.1, 40, .inl sb) := by rw [hw3]; exact hsM18
    have h8 : w2 19 = .inl (k.1, 40, .inl sd) := by rw [hw3]; exact hsM19
    have h9 : w2 20 = .inl (k.1, 40, .inl su) := by rw [hw3]; exact hsM20
    have hfr10 : ∀ z, z < 15 ∨ 20 < z → w2 z = w z := fun z hz => by rw [hw3]; exact (va_up_ne _ _ (by omega)).trans (hfr0 z hz)
    refine lv_aload_n hx hb dM_putOn_29 rfl (lv_at hl 1 rfl) ?_
    refine g_get hx hb hts inM hown hK hG 15 (by decide) h4 rfl 0 (by decide) lkM_9 rfl dM_putOn_30 ?_
    refine lv_iload hx hb dM_putOn_33 (lv_at hl 0 rfl) ?_
    refine lv_aload_n hx hb dM_putOn_35 rfl (lv_at hl 1 rfl) ?_
    refine g_get hx hb hts inM hown hK hG 15 (by decide) h4 rfl 4 (by decide) lkM_24 rfl dM_putOn_36 ?_
    refine lv_iload_n hx hb dM_putOn_39 rfl (lv_at hl 2 rfl) ?_
    refine g_iald hx hb hK hG 20 (by decide) h9 (j := i) (by omega) (by decide) dM_putOn_40 ?_
    refine g_iast hx hb hK hA hG hS 16 (by decide) h5 (j := nt) (by omega) (by decide) dM_putOn_41 (fun H locs hG hS => ?_)
    obtain ⟨w11, hw12⟩ : ∃ zz9, zz9 = va_up w2 16 (.inl (k.1, 40, .inl (upd tw nt (su i)))) := ⟨_, rfl⟩
    replace hG : gW D a w11 H := by rw [hw12]; exact hG
    have h13 : w11 15 = .inr (4, [.ref (a 16), .ref (a 17), .ref (a 18), .ref (a 19), .ref (a 20), .int bw, .int bd, .int bu, .int (nI (nt + 1)), .int (nI ns)]) := by rw [hw12]; exact h4
    have h14 : w11 16 = .inl (k.1, 40, .inl (upd tw nt (su i))) := by rw [hw12]; rfl
    have h15 : w11 17 = .inl (k.1, 40, .inl td) := by rw [hw12]; exact h6
    have h16 : w11 18 = .inl (k.1, 40, .inl sb) := by rw [hw12]; exact h7
    have h17 : w11 19 = .inl (k.1, 40, .inl sd) := by rw [hw12]; exact h8
    have h18 : w11 20 = .inl (k.1, 40, .inl su) := by rw [hw12]; exact h9
    have hfr19 : ∀ z, z < 15 ∨ 20 < z → w11 z = w z := fun z hz => by rw [hw12]; exact (va_up_ne _ _ (by omega)).trans (hfr10 z hz)
    refine lv_aload_n hx hb dM_putOn_42 rfl (lv_at hl 1 rfl) ?_
    refine g_get hx hb hts inM hown hK hG 15 (by decide) h13 rfl 1 (by decide) lkM_15 rfl dM_putOn_43 ?_
    refine lv_iload hx hb dM_putOn_46 (lv_at hl 0 rfl) ?_
    refine lv_aload_n hx hb dM_putOn_48 rfl (lv_at hl 1 rfl) ?_
    refine g_get hx hb hts inM hown hK hG 15 (by decide) h13 rfl 2 (by decide) lkM_18 rfl dM_putOn_49 ?_
    refine lv_iload_n hx hb dM_putOn_52 rfl (lv_at hl 2 rfl) ?_
    refine g_iald hx hb hK hG 18 (by decide) h16 (j := i) (by omega) (by decide) dM_putOn_53 ?_
    refine g_iast hx hb hK hA hG hS 17 (by decide) h15 (j := nt) (by omega) (by decide) dM_putOn_54 (fun H locs hG hS => ?_)
    obtain ⟨w20, hw21⟩ : ∃ zz9, zz9 = va_up w11 17 (.inl (k.1, 40, .inl (upd td nt (sb i)))) := ⟨_, rfl⟩
    replace hG : gW D a w20 H := by rw [hw21]; exact hG
    have h22 : w20 15 = .inr (4, [.ref (a 16), .ref (a 17), .ref (a 18), .ref (a 19), .ref (a 20), .int bw, .int bd, .int bu, .int (nI (nt + 1)), .int (nI ns)]) := by rw [hw21]; exact h13
    have h23 : w20 16 = .inl (k.1, 40, .inl (upd tw nt (su i))) := by rw [hw21]; exact h14
    have h24 : w20 17 = .inl (k.1, 40, .inl (upd td nt (sb i))) := by rw [hw21]; rfl
    have h25 : w20 18 = .inl (k.1, 40, .inl sb) := by rw [hw21]; exact h16
    have h26 : w20 19 = .inl (k.1, 40, .inl sd) := by rw [hw21]; exact h17
    have h27 : w20 20 = .inl (k.1, 40, .inl su) := by rw [hw21]; exact h18
    have hfr28 : ∀ z, z < 15 ∨ 20 < z → w20 z = w z := fun z hz => by rw [hw21]; exact (va_up_ne _ _ (by omega)).trans (hfr19 z hz)
    refine lv_aload_n hx hb dM_putOn_55 rfl (lv_at hl 1 rfl) ?_
    refine g_get hx hb hts inM hown hK hG 15 (by decide) h22 rfl 4 (by decide) lkM_24 rfl dM_putOn_56 ?_
    refine lv_iload_n hx hb dM_putOn_59 rfl (lv_at hl 2 rfl) ?_
    refine lv_dup2_11 hx hb dM_putOn_60 rfl rfl ?_
    refine g_iald hx hb hK hG 20 (by decide) h27 (j := i) (by omega) (by decide) dM_putOn_61 ?_
    refine lv_iload_n hx hb dM_putOn_62 rfl (lv_at hl 3 rfl) ?_
    refine lv_iadd hx hb dM_putOn_63 ?_
    refine g_iast hx hb hK hA hG hS 20 (by decide) h27 (j := i) (by omega) (by decide) dM_putOn_64 (fun H locs hG hS => ?_)
    obtain ⟨w29, hw30⟩ : ∃ zz9, zz9 = va_up w20 20 (.inl (k.1, 40, .inl (upd su i ((su i) + x)))) := ⟨_, rfl⟩
    replace hG : gW D a w29 H := by rw [hw30]; exact hG
    have h31 : w29 15 = .inr (4, [.ref (a 16), .ref (a 17), .ref (a 18), .ref (a 19), .ref (a 20), .int bw, .int bd, .int bu, .int (nI (nt + 1)), .int (nI ns)]) := by rw [hw30]; exact h22
    have h32 : w29 16 = .inl (k.1, 40, .inl (upd tw nt (su i))) := by rw [hw30]; exact h23
    have h33 : w29 17 = .inl (k.1, 40, .inl (upd td nt (sb i))) := by rw [hw30]; exact h24
    have h34 : w29 18 = .inl (k.1, 40, .inl sb) := by rw [hw30]; exact h25
    have h35 : w29 19 = .inl (k.1, 40, .inl sd) := by rw [hw30]; exact h26
    have h36 : w29 20 = .inl (k.1, 40, .inl (upd su i ((su i) + x))) := by rw [hw30]; rfl
    have hfr37 : ∀ z, z < 15 ∨ 20 < z → w29 z = w z := fun z hz => by rw [hw30]; exact (va_up_ne _ _ (by omega)).trans (hfr28 z hz)
    refine lv_iload hx hb dM_putOn_65 (lv_at hl 0 rfl) ?_
    exact g_iret hQ hx hb hr hlk hG hK hS (by decide) (by decide) ⟨by first | rfl | omega | (simp_all; done) | grind, ⟨h31, h32, h33, h34, h35, h36⟩, hfr37⟩ dM_putOn_67
  · exact absurd c1 (by omega)

abbrev rmM_putOn_n : Room := { frames := 1, cells := 0, slots := 0, locals := 21 }
set_option maxRecDepth 100000 in
set_option maxHeartbeats 4000000 in
theorem kM_putOn_n {l : Launch} {D : va_G} {k : ClassId × ClassId × ClassId} {a : Nat → Nat} {B0 : Nat} {w : Nat → va_E} (hA : gA B0 a) {bw : Int32} {bd : Int32} {bu : Int32} {nt : Nat} {ns : Nat} {tw : Nat → Int32} {td : Nat → Int32} {sb : Nat → Int32} {sd : Nat → Int32} {su : Nat → Int32} (hsM : sM k a w bw bd bu nt ns tw td sb sd su) (i : Nat) (x : Int32) (y : Int32) (hi : i = ns) (hns : ns < 40) (hnt : nt < 40) : Met l yM_putOn (tbw yM_putOn cM_putOn 5 (some .int)) rmM_putOn_n (gPc D k a B0 w [.ref (a 15), .int (nI i), .int x, .int y]) (va_Qi (fun r w1 => r = (nI nt) ∧ (sM k a w1 bw bd (bu + y) (nt + 1) (ns + 1) (upd tw nt (upd su ns 0 i)) (upd td nt (upd sb ns bu i)) (upd sb ns bu) (upd sd ns y) (upd (upd su ns 0) i (upd su ns 0 i + x))) ∧ ∀ z, z < 15 ∨ 20 < z → w1 z = w z) (gB D k a) (gF B0)) 0 0 (gF B0) := by
  obtain ⟨hsM15, hsM16, hsM17, hsM18, hsM19, hsM20⟩ := hsM
  refine g_ofW (by decide) rfl (fun p e s m args below meth c Q hQ hx hb hr hlk hml hown hts hB hG hK hS ls hl => ?_)
  have hl : lv_has ls 5 [(0, .ref (a 15)), (1, .int (nI i)), (2, .int x), (3, .int y)] := hl
  have hown : s.vm.findClass RM = some m.cls := hown
  have hfr0 : ∀ z, z < 15 ∨ 20 < z → w z = w z := fun _ _ => rfl
  refine lv_iload_n hx hb dM_putOn_0 rfl (lv_at hl 1 rfl) ?_
  refine lv_aload_n hx hb dM_putOn_1 rfl (lv_at hl 0 rfl) ?_
  refine g_get hx hb hts inM hown hK hG 15 (by decide) hsM15 rfl 9 (by decide) lkM_40 rfl dM_putOn_2 ?_
  refine ln_icmp_ne (x := i) (y := ns) (tgt := 13) hx hb dM_putOn_5 (by decide) (by omega) (by omega) (fun c1 => ?_) (fun c1 => ?_)
  · exact absurd hi c1
  · refine lv_aload_n hx hb dM_putOn_8 rfl (lv_at hl 0 rfl) ?_
    refine lv_iload_n hx hb dM_putOn_9 rfl (lv_at hl 3 rfl) ?_
    refine g_Vv (i := 15) (As := [.int y]) (rest := []) (kM_openShelf hA ⟨hsM15, hsM16, hsM17, hsM18, hsM19, hsM20⟩ y (by omega)) calM_openShelf cvM_openShelf mlM_43 hx hb hml hown hts hB hG hK hS (by decide) hsM15 rfl ⟨by decide, by decide⟩ rfl hl.1 rfl (Nat.le_of_ble_eq_true rfl) dM_putOn_10 ⟨by decide, by decide⟩ (fun w3 H locs hp4 hG hS => ?_)
    obtain ⟨⟨h5, h6, h7, h8, h9, h10⟩, hfr12⟩ := hp4
    have hfr13 : ∀ z, z < 15 ∨ 20 < z → w3 z = w z := fun z hz => (hfr12 z (by omega)).trans (hfr0 z hz)
    refine lv_aload_n hx hb dM_putOn_13 rfl (lv_at hl 0 rfl) ?_
    refine g_get hx hb hts inM hown hK hG 15 (by decide) h5 rfl 8 (by decide) lkM_37 rfl dM_putOn_14 ?_
    refine lv_istore (lv' := [(4, .int (nI nt)), (0, .ref (a 15)), (1, .int (nI i)), (2, .int x), (3, .int y)]) hx hb dM_putOn_17 hl (by decide) rfl (fun ls hl => ?_)
    refine lv_aload_n hx hb dM_putOn_19 rfl (lv_at hl 1 rfl) ?_
    refine lv_dup hx hb dM_putOn_20 rfl ?_
    refine g_get hx hb hts inM hown hK hG 15 (by decide) h5 rfl 8 (by decide) lkM_37 rfl dM_putOn_21 ?_
    refine lv_iconst (v := 1) hx hb dM_putOn_24 (by decide) ?_
    refine ln_iadd (x := nt) (y := 1) hx hb dM_putOn_25 ?_
    refine g_put hx hb hts inM tyM tokM nokM hown hK hA hG hS 15 (by decide) h5 rfl 8 (by decide) lkM_37 rfl (ty := .int) (by decide +kernel) rfl rfl (Nat.le_of_ble_eq_true rfl) dM_putOn_26 (fun H locs hG hS => ?_)
    obtain ⟨w14, hw15⟩ : ∃ zz9, zz9 = va_up w3 15 (.inr (4, [.ref (a 16), .ref (a 17), .ref (a 18), .ref (a 19), .ref (a 20), .int bw, .int bd, .int (bu + y), .int (nI (nt + 1)), .int (nI (ns + 1))])) := ⟨_, rfl⟩
    replace hG : gW D a w14 H := by rw [hw15]; exact hG
    have h16 : w14 15 = .inr (4, [.ref (a 16), .ref (a 17), .ref (a 18), .ref (a 19), .ref (a 20), .int bw, .int bd, .int (bu + y), .int (nI (nt + 1)), .int (nI (ns + 1))]) := by rw [hw15]; rfl
    have h17 : w14 16 = .inl (k.1, 40, .inl tw) := by rw [hw15]; exact h6
    have h18 : w14 17 = .inl (k.1, 40, .inl td) := by rw [hw15]; exact h7
    have h19 : w14 18 = .inl (k.1, 40, .inl (upd sb ns bu)) := by rw [hw15]; exact h8
    have h20 : w14 19 = .inl (k.1, 40, .inl (upd sd ns y)) := by rw [hw15]; exact h9
    have h21 : w14 20 = .inl (k.1, 40, .inl (upd su ns 0)) := by rw [hw15]; exact h10
    have hfr22 : ∀ z, z < 15 ∨ 20 < z → w14 z = w z := fun z hz => by rw [hw15]; exact (va_up_ne _ _ (by omega)).trans (hfr13 z hz)
    refine lv_aload_n hx hb dM_putOn_29 rfl (lv_at hl 1 rfl) ?_
    refine g_get hx hb hts inM hown hK hG 15 (by decide) h16 rfl 0 (by decide) lkM_9 rfl dM_putOn_30 ?_
    refine lv_iload hx hb dM_putOn_33 (lv_at hl 0 rfl) ?_
    refine lv_aload_n hx hb dM_putOn_35 rfl (lv_at hl 1 rfl) ?_
    refine g_get hx hb hts inM hown hK hG 15 (by decide) h16 rfl 4 (by decide) lkM_24 rfl dM_putOn_36 ?_
    refine lv_iload_n hx hb dM_putOn_39 rfl (lv_at hl 2 rfl) ?_
    refine g_iald hx hb hK hG 20 (by decide) h21 (j := i) (by omega) (by decide) dM_putOn_40 ?_
    refine g_iast hx hb hK hA hG hS 16 (by decide) h17 (j := nt) (by omega) (by decide) dM_putOn_41 (fun H locs hG hS => ?_)
    obtain ⟨w23, hw24⟩ : ∃ zz9, zz9 = va_up w14 16 (.inl (k.1, 40, .inl (upd tw nt ((upd su ns 0) i)))) := ⟨_, rfl⟩
    replace hG : gW D a w23 H := by rw [hw24]; exact hG
    have h25 : w23 15 = .inr (4, [.ref (a 16), .ref (a 17), .ref (a 18), .ref (a 19), .ref (a 20), .int bw, .int bd, .int (bu + y), .int (nI (nt + 1)), .int (nI (ns + 1))]) := by rw [hw24]; exact h16
    have h26 : w23 16 = .inl (k.1, 40, .inl (upd tw nt ((upd su ns 0) i))) := by rw [hw24]; rfl
    have h27 : w23 17 = .inl (k.1, 40, .inl td) := by rw [hw24]; exact h18
    have h28 : w23 18 = .inl (k.1, 40, .inl (upd sb ns bu)) := by rw [hw24]; exact h19
    have h29 : w23 19 = .inl (k.1, 40, .inl (upd sd ns y)) := by rw [hw24]; exact h20
    have h30 : w23 20 = .inl (k.1, 40, .inl (upd su ns 0)) := by rw [hw24]; exact h21
    have hfr31 : ∀ z, z < 15 ∨ 20 < z → w23 z = w z := fun z hz => by rw [hw24]; exact (va_up_ne _ _ (by omega)).trans (hfr22 z hz)
    refine lv_aload_n hx hb dM_putOn_42 rfl (lv_at hl 1 rfl) ?_
    refine g_get hx hb hts inM hown hK hG 15 (by decide) h25 rfl 1 (by decide) lkM_15 rfl dM_putOn_43 ?_
    refine lv_iload hx hb dM_putOn_46 (lv_at hl 0 rfl) ?_
    refine lv_aload_n hx hb dM_putOn_48 rfl (lv_at hl 1 rfl) ?_
    refine g_get hx hb hts inM hown hK hG 15 (by decide) h25 rfl 2 (by decide) lkM_18 rfl dM_putOn_49 ?_
    refine lv_iload_n hx hb dM_putOn_52 rfl (lv_at hl 2 rfl) ?_
    refine g_iald hx hb hK hG 18 (by decide) h28 (j := i) (by omega) (by decide) dM_putOn_53 ?_
    refine g_iast hx hb hK hA hG hS 17 (by decide) h27 (j := nt) (by omega) (by decide) dM_putOn_54 (fun H locs hG hS => ?_)
    obtain ⟨w32, hw33⟩ : ∃ zz9, zz9 = va_up w23 17 (.inl (k.1, 40, .inl (upd td nt ((upd sb ns bu) i)))) := ⟨_, rfl⟩
    replace hG : gW D a w32 H := by rw [hw33]; exact hG
    have h34 : w32 15 = .inr (4, [.ref (a 16), .ref (a 17), .ref (a 18), .ref (a 19), .ref (a 20), .int bw, .int bd, .int (bu + y), .int (nI (nt + 1)), .int (nI (ns + 1))]) := by rw [hw33]; exact h25
    have h35 : w32 16 = .inl (k.1, 40, .inl (upd tw nt ((upd su ns 0) i))) := by rw [hw33]; exact h26
    have h36 : w32 17 = .inl (k.1, 40, .inl (upd td nt ((upd sb ns bu) i))) := by rw [hw33]; rfl
    have h37 : w32 18 = .inl (k.1, 40, .inl (upd sb ns bu)) := by rw [hw33]; exact h28
    have h38 : w32 19 = .inl (k.1, 40, .inl (upd sd ns y)) := by rw [hw33]; exact h29
    have h39 : w32 20 = .inl (k.1, 40, .inl (upd su ns 0)) := by rw [hw33]; exact h30
    have hfr40 : ∀ z, z < 15 ∨ 20 < z → w32 z = w z := fun z hz => by rw [hw33]; exact (va_up_ne _ _ (by omega)).trans (hfr31 z hz)
    refine lv_aload_n hx hb dM_putOn_55 rfl (lv_at hl 1 rfl) ?_
    refine g_get hx hb hts inM hown hK hG 15 (by decide) h34 rfl 4 (by decide) lkM_24 rfl dM_putOn_56 ?_
    refine lv_iload_n hx hb dM_putOn_59 rfl (lv_at hl 2 rfl) ?_
    refine lv_dup2_11 hx hb dM_putOn_60 rfl rfl ?_
    refine g_iald hx hb hK hG 20 (by decide) h39 (j := i) (by omega) (by decide) dM_putOn_61 ?_
    refine lv_iload_n hx hb dM_putOn_62 rfl (lv_at hl 3 rfl) ?_
    refine lv_iadd hx hb dM_putOn_63 ?_
    refine g_iast hx hb hK hA hG hS 20 (by decide) h39 (j := i) (by omega) (by decide) dM_putOn_64 (fun H locs hG hS => ?_)
    obtain ⟨w41, hw42⟩ : ∃ zz9, zz9 = va_up w32 20 (.inl (k.1, 40, .inl (upd (upd su ns 0) i (((upd su ns 0) i) + x)))) := ⟨_, rfl⟩
    replace hG : gW D a w41 H := by rw [hw42]; exact hG
    have h43 : w41 15 = .inr (4, [.ref (a 16), .ref (a 17), .ref (a 18), .ref (a 19), .ref (a 20), .int bw, .int bd, .int (bu + y), .int (nI (nt + 1)), .int (nI (ns + 1))]) := by rw [hw42]; exact h34
    have h44 : w41 16 = .inl (k.1, 40, .inl (upd tw nt ((upd su ns 0) i))) := by rw [hw42]; exact h35
    have h45 : w41 17 = .inl (k.1, 40, .inl (upd td nt ((upd sb ns bu) i))) := by rw [hw42]; exact h36
    have h46 : w41 18 = .inl (k.1, 40, .inl (upd sb ns bu)) := by rw [hw42]; exact h37
    have h47 : w41 19 = .inl (k.1, 40, .inl (upd sd ns y)) := by rw [hw42]; exact h38
    have h48 : w41 20 = .inl (k.1, 40, .inl (upd (upd su ns 0) i (((upd su ns 0) i) + x))) := by rw [hw42]; rfl
    have hfr49 : ∀ z, z < 15 ∨ 20 < z → w41 z = w z := fun z hz => by rw [hw42]; exact (va_up_ne _ _ (by omega)).trans (hfr40 z hz)
    refine lv_iload hx hb dM_putOn_65 (lv_at hl 0 rfl) ?_
    exact g_iret hQ hx hb hr hlk hG hK hS (by decide) (by decide) ⟨by first | rfl | omega | (simp_all; done) | grind, ⟨h43, h44, h45, h46, h47, h48⟩, hfr49⟩ dM_putOn_67

abbrev rmX_greatestDivisor : Room := { frames := 0, cells := 0, slots := 0, locals := 0 }
set_option maxRecDepth 100000 in
set_option maxHeartbeats 4000000 in
theorem kX_greatestDivisor {l : Launch} {D : va_G} {k : ClassId × ClassId × ClassId} {a : Nat → Nat} {B0 : Nat} {w : Nat → va_E} (hA : gA B0 a)  (u : Int64) (v : Int64) : Met l yX_greatestDivisor (tbw yX_greatestDivisor cX_greatestDivisor 11 (some .long)) rmX_greatestDivisor (gPc D k a B0 w [.long u, .long v]) (va_Ql (roP (gcF 100 u v) w) (gB D k a) (gF B0)) 0 0 (gF B0) := by
  refine g_ofW (by decide) rfl (fun p e s m args below meth c Q hQ hx hb hr hlk hml hown hts hB hG hK hS ls hl => ?_)
  have hl : lv_has ls 11 [(0, .long u), (2, .long v)] := hl
  have hown : s.vm.findClass RX = some m.cls := hown
  refine lv_lload_n hx hb dX_greatestDivisor_0 rfl (lv_at hl 0 rfl) ?_
  refine lv_lstore (lv' := [(4, .long u), (0, .long u), (2, .long v)]) hx hb dX_greatestDivisor_1 hl (by decide) rfl (fun ls hl => ?_)
  refine lv_lload_n hx hb dX_greatestDivisor_3 rfl (lv_at hl 2 rfl) ?_
  refine lv_lstore (lv' := [(6, .long v), (4, .long u), (0, .long u), (2, .long v)]) hx hb dX_greatestDivisor_4 hl (by decide) rfl (fun ls hl => ?_)
  refine lv_iconst (v := 0) hx hb dX_greatestDivisor_6 (by decide) ?_
  refine lv_istore (lv' := [(8, .int 0), (6, .long v), (4, .long u), (0, .long u), (2, .long v)]) hx hb dX_greatestDivisor_7 hl (by decide) rfl (fun ls hl => ?_)
  have loop9 : ∀ (k9 : Nat) (x : Int64) (y : Int64) (i : Nat) (hi : i + k9 = 100) (hres : gcF k9 x y = gcF 100 u v) (H : Heap) (locs : List Loc) (ls : Array Slot), gW D a w H → va_S (gF B0) s.heap H locs → lv_has ls 11 [(0, .long u), (2, .long v), (4, .long x), (6, .long y), (8, .int (nI i))] → W p l e rmX_greatestDivisor s m args below meth c H locs 0 0 Q (F0 m 9 ls []) := by
    intro k9
    induction k9 using Nat.strongRecOn with
    | _ k9 ih9 =>
      intro x y i hi hres H locs ls hG hS hl
      refine lv_iload hx hb dX_greatestDivisor_9 (lv_at hl 4 rfl) ?_
      refine lv_bipush (v := 100) hx hb dX_greatestDivisor_11 (by decide) ?_
      refine ln_icmp_ge (x := i) (y := 100) (tgt := 44) hx hb dX_greatestDivisor_13 (by decide) (by omega) (by decide) (fun c1 => ?_) (fun c1 => ?_)
      · obtain rfl : k9 = 0 := by omega
        refine lv_lload hx hb dX_greatestDivisor_44 (lv_at hl 2 rfl) ?_
        exact g_lret hQ hx hb hr hlk hG hK hS (by decide) (by decide) ⟨by first | exact hres | (rw [← hres]; exact (gcF_e (by assumption)).symm), rfl⟩ dX_greatestDivisor_46
      · obtain ⟨k8, rfl⟩ : ∃ z, k9 = z + 1 := ⟨k9 - 1, by omega⟩
        refine lv_lload hx hb dX_greatestDivisor_16 (lv_at hl 3 rfl) ?_
        refine lv_lconst (v := 0) hx hb dX_greatestDivisor_18 (by decide) ?_
        refine W.lcmp hx hb dX_greatestDivisor_19 ?_
        refine lc_if_eq (tgt := 44) hx hb dX_greatestDivisor_20 (by decide) (fun c2 => ?_) (fun c2 => ?_)
        · refine lv_lload hx hb dX_greatestDivisor_44 (lv_at hl 2 rfl) ?_
          exact g_lret hQ hx hb hr hlk hG hK hS (by decide) (by decide) ⟨by first | exact hres | (rw [← hres]; exact (gcF_e (by assumption)).symm), rfl⟩ dX_greatestDivisor_46
        · refine lv_lload hx hb dX_greatestDivisor_23 (lv_at hl 2 rfl) ?_
          refine lv_lload hx hb dX_greatestDivisor_25 (lv_at hl 3 rfl) ?_
          refine lv_lrem hx hb dX_greatestDivisor_27 (by assumption) ?_
          refine lv_lstore (lv' := [(9, .long (x - x / y * y)), (0, .long u), (2, .long v), (4, .long x), (6, .long y), (8, .int (nI i))]) hx hb dX_greatestDivisor_28 hl (by decide) rfl (fun ls hl => ?_)
          refine lv_lload hx hb dX_greatestDivisor_30 (lv_at hl 4 rfl) ?_
          refine lv_lstore (lv' := [(4, .long y), (9, .long (x - x / y * y)), (0, .long u), (2, .long v), (6, .long y), (8, .int (nI i))]) hx hb dX_greatestDivisor_32 hl (by decide) rfl (fun ls hl => ?_)
          refine lv_lload hx hb dX_greatestDivisor_34 (lv_at hl 1 rfl) ?_
          refine lv_lstore (lv' := [(6, .long (x - x / y * y)), (4, .long y), (9, .long (x - x / y * y)), (0, .long u), (2, .long v), (8, .int (nI i))]) hx hb dX_greatestDivisor_36 hl (by decide) rfl (fun ls hl => ?_)
          refine lv_iinc (v := (nI (i + 1))) (lv' := [(8, .int (nI (i + 1))), (6, .long (x - x / y * y)), (4, .long y), (9, .long (x - x / y * y)), (0, .long u), (2, .long v)]) hx hb dX_greatestDivisor_38 hl (k := 5) rfl (nI_add i 1) (by decide) rfl (fun ls hl => ?_)
          refine lv_goto (tgt := 9) hx hb dX_greatestDivisor_41 (by decide) ?_
          exact ih9 k8 (by omega) y (x - x / y * y) (i + 1) (by omega) ((gcF_n (by assumption)).symm.trans hres) _ _ _ hG hS (lv_sub hl [4, 5, 2, 1, 0] rfl)
  exact loop9 100 u v 0 (by omega) rfl _ _ _ hG hS (lv_sub hl [3, 4, 2, 1, 0] rfl)

abbrev rmX_inLowestTerms : Room := { frames := 1, cells := 0, slots := 0, locals := 30 }
set_option maxRecDepth 100000 in
set_option maxHeartbeats 4000000 in
theorem kX_inLowestTerms {l : Launch} {D : va_G} {k : ClassId × ClassId × ClassId} {a : Nat → Nat} {B0 : Nat} {w : Nat → va_E} (hA : gA B0 a)  (u : Int64) (v : Int64) (q : Int32) : Met l yX_inLowestTerms (tbw yX_inLowestTerms cX_inLowestTerms 9 (some .long)) rmX_inLowestTerms (gPc D k a B0 w [.long u, .long v, .int q]) (va_Ql (roP (lowT u v q) w) (gB D k a) (gF B0)) 0 0 (gF B0) := by
  refine g_ofW (by decide) rfl (fun p e s m args below meth c Q hQ hx hb hr hlk hml hown hts hB hG hK hS ls hl => ?_)
  have hl : lv_has ls 9 [(0, .long u), (2, .long v), (4, .int q)] := hl
  have hown : s.vm.findClass RX = some m.cls := hown
  refine lv_iload hx hb dX_inLowestTerms_0 (lv_at hl 2 rfl) ?_
  refine lv_if_ne (tgt := 9) hx hb dX_inLowestTerms_2 (by decide) (fun c1 => ?_) (fun c1 => ?_)
  · refine lv_lload_n hx hb dX_inLowestTerms_9 rfl (lv_at hl 1 rfl) ?_
    refine lv_lstore (lv' := [(5, .long v), (0, .long u), (2, .long v), (4, .int q)]) hx hb dX_inLowestTerms_10 hl (by decide) rfl (fun ls hl => ?_)
    refine lv_lload_n hx hb dX_inLowestTerms_12 rfl (lv_at hl 1 rfl) ?_
    refine lv_lload_n hx hb dX_inLowestTerms_13 rfl (lv_at hl 2 rfl) ?_
    refine g_SlR (As := [.long u, .long v]) (rest := []) (kX_greatestDivisor hA u v) calX_greatestDivisor cvX_greatestDivisor mlX_237 hx hb hml hown hts hB hG hK hS ⟨by decide, by decide⟩ rfl hl.1 rfl (Nat.le_of_ble_eq_true rfl) dX_inLowestTerms_14 ⟨by decide, by decide⟩ (fun H locs hG hS => ?_)
    refine lv_lstore (lv' := [(7, .long (gcF 100 u v)), (5, .long v), (0, .long u), (2, .long v), (4, .int q)]) hx hb dX_inLowestTerms_17 hl (by decide) rfl (fun ls hl => ?_)
    refine lv_lload hx hb dX_inLowestTerms_19 (lv_at hl 0 rfl) ?_
    refine lv_lconst (v := 0) hx hb dX_inLowestTerms_21 (by decide) ?_
    refine W.lcmp hx hb dX_inLowestTerms_22 ?_
    refine lc_if_le (tgt := 34) hx hb dX_inLowestTerms_23 (by decide) (fun c2 => ?_) (fun c2 => ?_)
    · refine lv_lload hx hb dX_inLowestTerms_34 (lv_at hl 1 rfl) ?_
      exact g_lret hQ hx hb hr hlk hG hK hS (by decide) (by decide) ⟨by exact (lowT_4 (Int64.not_lt.mpr (by assumption)) (by assumption)).symm, rfl⟩ dX_inLowestTerms_36
    · refine lv_lload hx hb dX_inLowestTerms_26 (lv_at hl 1 rfl) ?_
      refine lv_lload hx hb dX_inLowestTerms_28 (lv_at hl 0 rfl) ?_
      refine lv_ldiv hx hb dX_inLowestTerms_30 (i64pos_ne (by assumption)) ?_
      refine lv_goto (tgt := 36) hx hb dX_inLowestTerms_31 (by decide) ?_
      exact g_lret hQ hx hb hr hlk hG hK hS (by decide) (by decide) ⟨by exact (lowT_2 (by assumption) (by assumption)).symm, rfl⟩ dX_inLowestTerms_36
  · refine lv_lload_n hx hb dX_inLowestTerms_5 rfl (lv_at hl 0 rfl) ?_
    refine lv_goto (tgt := 10) hx hb dX_inLowestTerms_6 (by decide) ?_
    refine lv_lstore (lv' := [(5, .long u), (0, .long u), (2, .long v), (4, .int q)]) hx hb dX_inLowestTerms_10 hl (by decide) rfl (fun ls hl => ?_)
    refine lv_lload_n hx hb dX_inLowestTerms_12 rfl (lv_at hl 1 rfl) ?_
    refine lv_lload_n hx hb dX_inLowestTerms_13 rfl (lv_at hl 2 rfl) ?_
    refine g_SlR (As := [.long u, .long v]) (rest := []) (kX_greatestDivisor hA u v) calX_greatestDivisor cvX_greatestDivisor mlX_237 hx hb hml hown hts hB hG hK hS ⟨by decide, by decide⟩ rfl hl.1 rfl (Nat.le_of_ble_eq_true rfl) dX_inLowestTerms_14 ⟨by decide, by decide⟩ (fun H locs hG hS => ?_)
    refine lv_lstore (lv' := [(7, .long (gcF 100 u v)), (5, .long u), (0, .long u), (2, .long v), (4, .int q)]) hx hb dX_inLowestTerms_17 hl (by decide) rfl (fun ls hl => ?_)
    refine lv_lload hx hb dX_inLowestTerms_19 (lv_at hl 0 rfl) ?_
    refine lv_lconst (v := 0) hx hb dX_inLowestTerms_21 (by decide) ?_
    refine W.lcmp hx hb dX_inLowestTerms_22 ?_
    refine lc_if_le (tgt := 34) hx hb dX_inLowestTerms_23 (by decide) (fun c3 => ?_) (fun c3 => ?_)
    · refine lv_lload hx hb dX_inLowestTerms_34 (lv_at hl 1 rfl) ?_
      exact g_lret hQ hx hb hr hlk hG hK hS (by decide) (by decide) ⟨by exact (lowT_3 (Int64.not_lt.mpr (by assumption)) (by assumption)).symm, rfl⟩ dX_inLowestTerms_36
    · refine lv_lload hx hb dX_inLowestTerms_26 (lv_at hl 1 rfl) ?_
      refine lv_lload hx hb dX_inLowestTerms_28 (lv_at hl 0 rfl) ?_
      refine lv_ldiv hx hb dX_inLowestTerms_30 (i64pos_ne (by assumption)) ?_
      refine lv_goto (tgt := 36) hx hb dX_inLowestTerms_31 (by decide) ?_
      exact g_lret hQ hx hb hr hlk hG hK hS (by decide) (by decide) ⟨by exact (lowT_1 (by assumption) (by assumption)).symm, rfl⟩ dX_inLowestTerms_36

abbrev rmX_whatFeeds : Room := { frames := 3, cells := 0, slots := 0, locals := 68 }
set_option maxRecDepth 100000 in
set_option maxHeartbeats 4000000 in
theorem kX_whatFeeds {l : Launch} {D : va_G} {k : ClassId × ClassId × ClassId} {a : Nat → Nat} {B0 : Nat} {w : Nat → va_E} (hA : gA B0 a) {n : Nat} {up : Nat → Int64} {lo : Nat → Int64} {fa : Nat → Int32} {we : Nat → Int32} {ti : Nat → Int32} {ri : Nat → Int32} {jo : Nat → Int32} (hsX : sX k a w ) (hsP : sP k a w n up lo fa we ti ri jo) (j : Nat) (hj : j < n) (hn : n ≤ 12) (hjo : ∀ z, z < 144 → narrow .boolean (.int (jo z)) = .int (jo z)) : Met l yX_whatFeeds (tbw yX_whatFeeds cX_whatFeeds 3 (some .int)) rmX_whatFeeds (gPc D k a B0 w [.ref (a 0), .int (nI j)]) (va_Qi (roP (rFeed up lo ri jo n j) w) (gB D k a) (gF B0)) 0 0 (gF B0) := by
  have hsX0 := hsX
  obtain ⟨hsP1, hsP2, hsP3, hsP4, hsP5, hsP6, hsP7, hsP8⟩ := hsP
  refine g_ofW (by decide) rfl (fun p e s m args below meth c Q hQ hx hb hr hlk hml hown hts hB hG hK hS ls hl => ?_)
  have hl : lv_has ls 3 [(0, .ref (a 0)), (1, .int (nI j))] := hl
  have hown : s.vm.findClass RX = some m.cls := hown
  refine lv_aload_n hx hb dX_whatFeeds_0 rfl (lv_at hl 0 rfl) ?_
  refine g_get hx hb hts inX hown hK hG 0 (by decide) hsX0 rfl 0 (by decide) lkX_10 rfl dX_whatFeeds_1 ?_
  refine lv_iload_n hx hb dX_whatFeeds_4 rfl (lv_at hl 1 rfl) ?_
  refine g_ViR (i := 1) (As := [.int (nI j)]) (rest := []) (kP_isTold hA ⟨hsP1, hsP2, hsP3, hsP4, hsP5, hsP6, hsP7, hsP8⟩ j (by omega)) calP_isTold cvP_isTold mlX_112 hx hb hml hown hts hB hG hK hS (by decide) hsP1 rfl ⟨by decide, by decide⟩ rfl hl.1 rfl (Nat.le_of_ble_eq_true rfl) dX_whatFeeds_5 ⟨by decide, by decide⟩ (fun H locs hG hS => ?_)
  refine lb_if_ne (tgt := 14) hx hb dX_whatFeeds_8 (by decide) (fun c1 => ?_) (fun c1 => ?_)
  · refine lv_aload_n hx hb dX_whatFeeds_14 rfl (lv_at hl 0 rfl) ?_
    refine g_get hx hb hts inX hown hK hG 0 (by decide) hsX0 rfl 0 (by decide) lkX_10 rfl dX_whatFeeds_15 ?_
    refine lv_iload_n hx hb dX_whatFeeds_18 rfl (lv_at hl 1 rfl) ?_
    refine g_ViR (i := 1) (As := [.int (nI j)]) (rest := []) (kP_riserOf hA ⟨hsP1, hsP2, hsP3, hsP4, hsP5, hsP6, hsP7, hsP8⟩ j (by omega)) calP_riserOf cvP_riserOf mlX_142 hx hb hml hown hts hB hG hK hS (by decide) hsP1 rfl ⟨by decide, by decide⟩ rfl hl.1 rfl (Nat.le_of_ble_eq_true rfl) dX_whatFeeds_19 ⟨by decide, by decide⟩ (fun H locs hG hS => ?_)
    refine lv_istore_n (lv' := [(2, .int (ri j)), (0, .ref (a 0)), (1, .int (nI j))]) hx hb dX_whatFeeds_22 rfl hl (by decide) rfl (fun ls hl => ?_)
    refine lv_iload_n hx hb dX_whatFeeds_23 rfl (lv_at hl 0 rfl) ?_
    refine lv_iconst (v := (-1)) hx hb dX_whatFeeds_24 (by decide) ?_
    refine lv_icmp_ne (tgt := 39) hx hb dX_whatFeeds_25 (by decide) (fun c2 => ?_) (fun c2 => ?_)
    · refine lv_bipush (v := 100) hx hb dX_whatFeeds_39 (by decide) ?_
      refine lv_iload_n hx hb dX_whatFeeds_41 rfl (lv_at hl 0 rfl) ?_
      refine lv_iadd hx hb dX_whatFeeds_42 ?_
      exact g_iret hQ hx hb hr hlk hG hK hS (by decide) (by decide) ⟨by unfold rFeed; rw [if_pos (by assumption), if_neg (by assumption)], rfl⟩ dX_whatFeeds_43
    · refine lv_aload_n hx hb dX_whatFeeds_28 rfl (lv_at hl 1 rfl) ?_
      refine g_get hx hb hts inX hown hK hG 0 (by decide) hsX0 rfl 0 (by decide) lkX_10 rfl dX_whatFeeds_29 ?_
      refine lv_iload_n hx hb dX_whatFeeds_32 rfl (lv_at hl 2 rfl) ?_
      refine g_ViR (i := 1) (As := [.int (nI j)]) (rest := []) (kP_greatestNeighbour hA ⟨hsP1, hsP2, hsP3, hsP4, hsP5, hsP6, hsP7, hsP8⟩ j (by omega) (by omega) hjo) calP_greatestNeighbour cvP_greatestNeighbour mlX_208 hx hb hml hown hts hB hG hK hS (by decide) hsP1 rfl ⟨by decide, by decide⟩ rfl hl.1 rfl (Nat.le_of_ble_eq_true rfl) dX_whatFeeds_33 ⟨by decide, by decide⟩ (fun H locs hG hS => ?_)
      refine lv_goto (tgt := 43) hx hb dX_whatFeeds_36 (by decide) ?_
      exact g_iret hQ hx hb hr hlk hG hK hS (by decide) (by decide) ⟨by unfold rFeed; rw [if_pos (by assumption), if_pos (by assumption)], rfl⟩ dX_whatFeeds_43
  · refine lv_bipush (v := (-2)) hx hb dX_whatFeeds_11 (by decide) ?_
    exact g_iret hQ hx hb hr hlk hG hK hS (by decide) (by decide) ⟨by unfold rFeed; rw [if_neg (by assumption)], rfl⟩ dX_whatFeeds_13

abbrev rmX_box : Room := { frames := 3, cells := 0, slots := 0, locals := 71 }
set_option maxRecDepth 100000 in
set_option maxHeartbeats 4000000 in
theorem kX_box {l : Launch} {D : va_G} {k : ClassId × ClassId × ClassId} {a : Nat → Nat} {B0 : Nat} {w : Nat → va_E} (hA : gA B0 a) {n : Nat} {up : Nat → Int64} {lo : Nat → Int64} {fa : Nat → Int32} {we : Nat → Int32} {ti : Nat → Int32} {ri : Nat → Int32} {jo : Nat → Int32} (hsX : sX k a w ) (hsP : sP k a w n up lo fa we ti ri jo) (x : Int32) (y : Int32) (z : Int32) (hn : n < 12) (h1 : szR x) (h2 : szR y) (h3 : szR z) : Met l yX_box (tbw yX_box cX_box 4 (some .int)) rmX_box (gPc D k a B0 w [.ref (a 0), .int x, .int y, .int z]) (va_Qi (fun r w1 => ∃ (up' : Nat → Int64) (lo' : Nat → Int64) (fa' : Nat → Int32) (we' : Nat → Int32) (ti' : Nat → Int32) (ri' : Nat → Int32), r = (nI n) ∧ (sP k a w1 (n + 1) up' lo' fa' we' ti' ri' jo) ∧ (up' = vp_updL up n (x.toInt64 * y.toInt64 * z.toInt64) ∧ fa' = upd fa n 6 ∧ ri' = upd ri n (-1) ∧ adB n 6 (qB x y z) lo we ti lo' we' ti') ∧ ∀ z, z < 1 ∨ 8 < z → w1 z = w z) (gB D k a) (gF B0)) 0 0 (gF B0) := by
  have hsX0 := hsX
  obtain ⟨hsP1, hsP2, hsP3, hsP4, hsP5, hsP6, hsP7, hsP8⟩ := hsP
  refine g_ofW (by decide) rfl (fun p e s m args below meth c Q hQ hx hb hr hlk hml hown hts hB hG hK hS ls hl => ?_)
  have hl : lv_has ls 4 [(0, .ref (a 0)), (1, .int x), (2, .int y), (3, .int z)] := hl
  have hown : s.vm.findClass RX = some m.cls := hown
  have hfr0 : ∀ z, z < 1 ∨ 8 < z → w z = w z := fun _ _ => rfl
  refine lv_aload_n hx hb dX_box_0 rfl (lv_at hl 0 rfl) ?_
  refine g_VvR (i := 0) (As := []) (rest := []) (kX_requireRoomForPart hA hsX0 ⟨hsP1, hsP2, hsP3, hsP4, hsP5, hsP6, hsP7, hsP8⟩ (by omega)) calX_requireRoomForPart cvX_requireRoomForPart mlX_37 hx hb hml hown hts hB hG hK hS (by decide) hsX0 rfl ⟨by decide, by decide⟩ rfl hl.1 rfl (Nat.le_of_ble_eq_true rfl) dX_box_1 ⟨by decide, by decide⟩ (fun H locs hG hS => ?_)
  refine lv_iload_n hx hb dX_box_4 rfl (lv_at hl 1 rfl) ?_
  refine g_SvR (As := [.int x]) (rest := []) (kX_requireSize hA x (by assumption)) calX_requireSize cvX_requireSize mlX_40 hx hb hml hown hts hB hG hK hS ⟨by decide, by decide⟩ rfl hl.1 rfl (Nat.le_of_ble_eq_true rfl) dX_box_5 ⟨by decide, by decide⟩ (fun H locs hG hS => ?_)
  refine lv_iload_n hx hb dX_box_8 rfl (lv_at hl 2 rfl) ?_
  refine g_SvR (As := [.int y]) (rest := []) (kX_requireSize hA y (by assumption)) calX_requireSize cvX_requireSize mlX_40 hx hb hml hown hts hB hG hK hS ⟨by decide, by decide⟩ rfl hl.1 rfl (Nat.le_of_ble_eq_true rfl) dX_box_9 ⟨by decide, by decide⟩ (fun H locs hG hS => ?_)
  refine lv_iload_n hx hb dX_box_12 rfl (lv_at hl 3 rfl) ?_
  refine g_SvR (As := [.int z]) (rest := []) (kX_requireSize hA z (by assumption)) calX_requireSize cvX_requireSize mlX_40 hx hb hml hown hts hB hG hK hS ⟨by decide, by decide⟩ rfl hl.1 rfl (Nat.le_of_ble_eq_true rfl) dX_box_13 ⟨by decide, by decide⟩ (fun H locs hG hS => ?_)
  refine lv_aload_n hx hb dX_box_16 rfl (lv_at hl 0 rfl) ?_
  refine g_get hx hb hts inX hown hK hG 0 (by decide) hsX0 rfl 0 (by decide) lkX_10 rfl dX_box_17 ?_
  refine lv_iload_n hx hb dX_box_20 rfl (lv_at hl 1 rfl) ?_
  refine lv_iload_n hx hb dX_box_21 rfl (lv_at hl 2 rfl) ?_
  refine lv_iload_n hx hb dX_box_22 rfl (lv_at hl 3 rfl) ?_
  refine g_Vi (i := 1) (As := [.int x, .int y, .int z]) (rest := []) (kP_addBox hA ⟨hsP1, hsP2, hsP3, hsP4, hsP5, hsP6, hsP7, hsP8⟩ x y z (by omega)) calP_addBox cvP_addBox mlX_44 hx hb hml hown hts hB hG hK hS (by decide) hsP1 rfl ⟨by decide, by decide⟩ rfl hl.1 rfl (Nat.le_of_ble_eq_true rfl) dX_box_23 ⟨by decide, by decide⟩ (fun r1 w2 H locs hp3 hG hS => ?_)
  obtain ⟨up_14, lo_15, fa_16, we_17, ti_18, ri_19, er12, ⟨h4, h5, h6, h7, h8, h9, h10, h11⟩, hx20, hfr13⟩ := hp3
  have h21 : w2 0 = .inr (0, [.ref (a 1), .ref (a 9), .ref (a 12), .ref (a 15)]) := (hfr13 0 (by omega)).trans hsX0
  have hfr22 : ∀ z, z < 1 ∨ 8 < z → w2 z = w z := fun z hz => (hfr13 z (by omega)).trans (hfr0 z hz)
  rw [er12]
  exact g_iret hQ hx hb hr hlk hG hK hS (by decide) (by decide) ⟨up_14, lo_15, fa_16, we_17, ti_18, ri_19, by first | rfl | omega | (simp_all; done) | grind, ⟨h4, h5, h6, h7, h8, h9, h10, h11⟩, hx20, hfr22⟩ dX_box_26

abbrev rmX_box_f : Room := { frames := 7, cells := 1, slots := 6, locals := 102 }
set_option maxRecDepth 100000 in
set_option maxHeartbeats 4000000 in
theorem kX_box_f {l : Launch} (hl9 : l.stackTraces = false) {D : va_G} {k : ClassId × ClassId × ClassId} {a : Nat → Nat} {B0 : Nat} {w : Nat → va_E} (hA : gA B0 a) {n : Nat} {up : Nat → Int64} {lo : Nat → Int64} {fa : Nat → Int32} {we : Nat → Int32} {ti : Nat → Int32} {ri : Nat → Int32} {jo : Nat → Int32} (hsX : sX k a w ) (hsP : sP k a w n up lo fa we ti ri jo) (x : Int32) (y : Int32) (z : Int32) (hn : n = 12) : xMet l yX_box cX_box 4 (some .int) rmX_box_f D k a B0 w [.ref (a 0), .int x, .int y, .int z] eISE := by
  have hsX0 := hsX
  obtain ⟨hsP1, hsP2, hsP3, hsP4, hsP5, hsP6, hsP7, hsP8⟩ := hsP
  refine x_ofW (by decide) rfl (fun p e s m args below meth c Q hQ htab hx hb hr hlk hml hown hts hB hG hK hS hXS ls hl => ?_)
  have hl : lv_has ls 4 [(0, .ref (a 0)), (1, .int x), (2, .int y), (3, .int z)] := hl
  have hown : s.vm.findClass RX = some m.cls := hown
  refine lv_aload_n hx hb dX_box_0 rfl (lv_at hl 0 rfl) ?_
  exact x_VB (i := 0) (As := []) (rest := []) hQ htab hlk (kX_requireRoomForPart_b hl9 hA hsX0 ⟨hsP1, hsP2, hsP3, hsP4, hsP5, hsP6, hsP7, hsP8⟩ (by omega)) calX_requireRoomForPart cvX_requireRoomForPart mlX_37 hx hb hml hown hts hB hG hK hS hXS (by decide) hsX0 rfl ⟨by decide, by decide⟩ rfl hl.1 rfl (Nat.le_of_ble_eq_true rfl) dX_box_1 ⟨by decide, by decide⟩ (by decide) (by decide)

abbrev rmX_box_z : Room := { frames := 7, cells := 1, slots := 6, locals := 102 }
set_option maxRecDepth 100000 in
set_option maxHeartbeats 4000000 in
theorem kX_box_z {l : Launch} (hl9 : l.stackTraces = false) {D : va_G} {k : ClassId × ClassId × ClassId} {a : Nat → Nat} {B0 : Nat} {w : Nat → va_E} (hA : gA B0 a) {n : Nat} {up : Nat → Int64} {lo : Nat → Int64} {fa : Nat → Int32} {we : Nat → Int32} {ti : Nat → Int32} {ri : Nat → Int32} {jo : Nat → Int32} (hsX : sX k a w ) (hsP : sP k a w n up lo fa we ti ri jo) (x : Int32) (y : Int32) (z : Int32) (hn : n < 12) (hz : ¬ (szR x ∧ szR y ∧ szR z)) : xMet l yX_box cX_box 4 (some .int) rmX_box_z D k a B0 w [.ref (a 0), .int x, .int y, .int z] eIAE := by
  have hsX0 := hsX
  obtain ⟨hsP1, hsP2, hsP3, hsP4, hsP5, hsP6, hsP7, hsP8⟩ := hsP
  refine x_ofW (by decide) rfl (fun p e s m args below meth c Q hQ htab hx hb hr hlk hml hown hts hB hG hK hS hXS ls hl => ?_)
  have hl : lv_has ls 4 [(0, .ref (a 0)), (1, .int x), (2, .int y), (3, .int z)] := hl
  have hown : s.vm.findClass RX = some m.cls := hown
  refine lv_aload_n hx hb dX_box_0 rfl (lv_at hl 0 rfl) ?_
  refine g_VvR (i := 0) (As := []) (rest := []) (kX_requireRoomForPart hA hsX0 ⟨hsP1, hsP2, hsP3, hsP4, hsP5, hsP6, hsP7, hsP8⟩ (by omega)) calX_requireRoomForPart cvX_requireRoomForPart mlX_37 hx hb hml hown hts hB hG hK hS (by decide) hsX0 rfl ⟨by decide, by decide⟩ rfl hl.1 rfl (Nat.le_of_ble_eq_true rfl) dX_box_1 ⟨by decide, by decide⟩ (fun H locs hG hS => ?_)
  refine lv_iload_n hx hb dX_box_4 rfl (lv_at hl 1 rfl) ?_
  by_cases hs1 : szR x
  · refine g_SvR (As := [.int x]) (rest := []) (kX_requireSize hA x (by assumption)) calX_requireSize cvX_requireSize mlX_40 hx hb hml hown hts hB hG hK hS ⟨by decide, by decide⟩ rfl hl.1 rfl (Nat.le_of_ble_eq_true rfl) dX_box_5 ⟨by decide, by decide⟩ (fun H locs hG hS => ?_)
    refine lv_iload_n hx hb dX_box_8 rfl (lv_at hl 2 rfl) ?_
    by_cases hs2 : szR y
    · refine g_SvR (As := [.int y]) (rest := []) (kX_requireSize hA y (by assumption)) calX_requireSize cvX_requireSize mlX_40 hx hb hml hown hts hB hG hK hS ⟨by decide, by decide⟩ rfl hl.1 rfl (Nat.le_of_ble_eq_true rfl) dX_box_9 ⟨by decide, by decide⟩ (fun H locs hG hS => ?_)
      refine lv_iload_n hx hb dX_box_12 rfl (lv_at hl 3 rfl) ?_
      by_cases hs3 : szR z
      · refine g_SvR (As := [.int z]) (rest := []) (kX_requireSize hA z (by assumption)) calX_requireSize cvX_requireSize mlX_40 hx hb hml hown hts hB hG hK hS ⟨by decide, by decide⟩ rfl hl.1 rfl (Nat.le_of_ble_eq_true rfl) dX_box_13 ⟨by decide, by decide⟩ (fun H locs hG hS => ?_)
        exact absurd ⟨by assumption, by assumption, by assumption⟩ hz
      · exact x_SB (As := [.int z]) (rest := []) hQ htab hlk (kX_requireSize_b hl9 hA z (by assumption)) calX_requireSize cvX_requireSize mlX_40 hx hb hml hown hts hB hG hK hS hXS ⟨by decide, by decide⟩ rfl hl.1 rfl (Nat.le_of_ble_eq_true rfl) dX_box_13 ⟨by decide, by decide⟩ (by decide) (by decide)
    · exact x_SB (As := [.int y]) (rest := []) hQ htab hlk (kX_requireSize_b hl9 hA y (by assumption)) calX_requireSize cvX_requireSize mlX_40 hx hb hml hown hts hB hG hK hS hXS ⟨by decide, by decide⟩ rfl hl.1 rfl (Nat.le_of_ble_eq_true rfl) dX_box_9 ⟨by decide, by decide⟩ (by decide) (by decide)
  · exact x_SB (As := [.int x]) (rest := []) hQ htab hlk (kX_requireSize_b hl9 hA x (by assumption)) calX_requireSize cvX_requireSize mlX_40 hx hb hml hown hts hB hG hK hS hXS ⟨by decide, by decide⟩ rfl hl.1 rfl (Nat.le_of_ble_eq_true rfl) dX_box_5 ⟨by decide, by decide⟩ (by decide) (by decide)

abbrev rmX_cylinder : Room := { frames := 3, cells := 0, slots := 0, locals := 70 }
set_option maxRecDepth 100000 in
set_option maxHeartbeats 4000000 in
theorem kX_cylinder {l : Launch} {D : va_G} {k : ClassId × ClassId × ClassId} {a : Nat → Nat} {B0 : Nat} {w : Nat → va_E} (hA : gA B0 a) {n : Nat} {up : Nat → Int64} {lo : Nat → Int64} {fa : Nat → Int32} {we : Nat → Int32} {ti : Nat → Int32} {ri : Nat → Int32} {jo : Nat → Int32} (hsX : sX k a w ) (hsP : sP k a w n up lo fa we ti ri jo) (x : Int32) (y : Int32) (hn : n < 12) (h1 : szR x) (h2 : szR y) : Met l yX_cylinder (tbw yX_cylinder cX_cylinder 3 (some .int)) rmX_cylinder (gPc D k a B0 w [.ref (a 0), .int x, .int y]) (va_Qi (fun r w1 => ∃ (up' : Nat → Int64) (lo' : Nat → Int64) (fa' : Nat → Int32) (we' : Nat → Int32) (ti' : Nat → Int32) (ri' : Nat → Int32), r = (nI n) ∧ (sP k a w1 (n + 1) up' lo' fa' we' ti' ri' jo) ∧ (up' = vp_updL up n (x.toInt64 * y.toInt64) ∧ fa' = upd fa n 3 ∧ ri' = upd ri n (-1) ∧ adB n 3 (qC x y) lo we ti lo' we' ti') ∧ ∀ z, z < 1 ∨ 8 < z → w1 z = w z) (gB D k a) (gF B0)) 0 0 (gF B0) := by
  have hsX0 := hsX
  obtain ⟨hsP1, hsP2, hsP3, hsP4, hsP5, hsP6, hsP7, hsP8⟩ := hsP
  refine g_ofW (by decide) rfl (fun p e s m args below meth c Q hQ hx hb hr hlk hml hown hts hB hG hK hS ls hl => ?_)
  have hl : lv_has ls 3 [(0, .ref (a 0)), (1, .int x), (2, .int y)] := hl
  have hown : s.vm.findClass RX = some m.cls := hown
  have hfr0 : ∀ z, z < 1 ∨ 8 < z → w z = w z := fun _ _ => rfl
  refine lv_aload_n hx hb dX_cylinder_0 rfl (lv_at hl 0 rfl) ?_
  refine g_VvR (i := 0) (As := []) (rest := []) (kX_requireRoomForPart hA hsX0 ⟨hsP1, hsP2, hsP3, hsP4, hsP5, hsP6, hsP7, hsP8⟩ (by omega)) calX_requireRoomForPart cvX_requireRoomForPart mlX_37 hx hb hml hown hts hB hG hK hS (by decide) hsX0 rfl ⟨by decide, by decide⟩ rfl hl.1 rfl (Nat.le_of_ble_eq_true rfl) dX_cylinder_1 ⟨by decide, by decide⟩ (fun H locs hG hS => ?_)
  refine lv_iload_n hx hb dX_cylinder_4 rfl (lv_at hl 1 rfl) ?_
  refine g_SvR (As := [.int x]) (rest := []) (kX_requireSize hA x (by assumption)) calX_requireSize cvX_requireSize mlX_40 hx hb hml hown hts hB hG hK hS ⟨by decide, by decide⟩ rfl hl.1 rfl (Nat.le_of_ble_eq_true rfl) dX_cylinder_5 ⟨by decide, by decide⟩ (fun H locs hG hS => ?_)
  refine lv_iload_n hx hb dX_cylinder_8 rfl (lv_at hl 2 rfl) ?_
  refine g_SvR (As := [.int y]) (rest := []) (kX_requireSize hA y (by assumption)) calX_requireSize cvX_requireSize mlX_40 hx hb hml hown hts hB hG hK hS ⟨by decide, by decide⟩ rfl hl.1 rfl (Nat.le_of_ble_eq_true rfl) dX_cylinder_9 ⟨by decide, by decide⟩ (fun H locs hG hS => ?_)
  refine lv_aload_n hx hb dX_cylinder_12 rfl (lv_at hl 0 rfl) ?_
  refine g_get hx hb hts inX hown hK hG 0 (by decide) hsX0 rfl 0 (by decide) lkX_10 rfl dX_cylinder_13 ?_
  refine lv_iload_n hx hb dX_cylinder_16 rfl (lv_at hl 1 rfl) ?_
  refine lv_iload_n hx hb dX_cylinder_17 rfl (lv_at hl 2 rfl) ?_
  refine g_Vi (i := 1) (As := [.int x, .int y]) (rest := []) (kP_addCylinder hA ⟨hsP1, hsP2, hsP3, hsP4, hsP5, hsP6, hsP7, hsP8⟩ x y (by omega)) calP_addCylinder cvP_addCylinder mlX_48 hx hb hml hown hts hB hG hK hS (by decide) hsP1 rfl ⟨by decide, by decide⟩ rfl hl.1 rfl (Nat.le_of_ble_eq_true rfl) dX_cylinder_18 ⟨by decide, by decide⟩ (fun r1 w2 H locs hp3 hG hS => ?_)
  obtain ⟨up_14, lo_15, fa_16, we_17, ti_18, ri_19, er12, ⟨h4, h5, h6, h7, h8, h9, h10, h11⟩, hx20, hfr13⟩ := hp3
  have h21 : w2 0 = .inr (0, [.ref (a 1), .ref (a 9), .ref (a 12), .ref (a 15)]) := (hfr13 0 (by omega)).trans hsX0
  have hfr22 : ∀ z, z < 1 ∨ 8 < z → w2 z = w z := fun z hz => (hfr13 z (by omega)).trans (hfr0 z hz)
  rw [er12]
  exact g_iret hQ hx hb hr hlk hG hK hS (by decide) (by decide) ⟨up_14, lo_15, fa_16, we_17, ti_18, ri_19, by first | rfl | omega | (simp_all; done) | grind, ⟨h4, h5, h6, h7, h8, h9, h10, h11⟩, hx20, hfr22⟩ dX_cylinder_21

abbrev rmX_cylinder_f : Room := { frames := 7, cells := 1, slots := 6, locals := 102 }
set_option maxRecDepth 100000 in
set_option maxHeartbeats 4000000 in
theorem kX_cylinder_f {l : Launch} (hl9 : l.stackTraces = false) {D : va_G} {k : ClassId × ClassId × ClassId} {a : Nat → Nat} {B0 : Nat} {w : Nat → va_E} (hA : gA B0 a) {n : Nat} {up : Nat → Int64} {lo : Nat → Int64} {fa : Nat → Int32} {we : Nat → Int32} {ti : Nat → Int32} {ri : Nat → Int32} {jo : Nat → Int32} (hsX : sX k a w ) (hsP : sP k a w n up lo fa we ti ri jo) (x : Int32) (y : Int32) (hn : n = 12) : xMet l yX_cylinder cX_cylinder 3 (some .int) rmX_cylinder_f D k a B0 w [.ref (a 0), .int x, .int y] eISE := by
  have hsX0 := hsX
  obtain ⟨hsP1, hsP2, hsP3, hsP4, hsP5, hsP6, hsP7, hsP8⟩ := hsP
  refine x_ofW (by decide) rfl (fun p e s m args below meth c Q hQ htab hx hb hr hlk hml hown hts hB hG hK hS hXS ls hl => ?_)
  have hl : lv_has ls 3 [(0, .ref (a 0)), (1, .int x), (2, .int y)] := hl
  have hown : s.vm.findClass RX = some m.cls := hown
  refine lv_aload_n hx hb dX_cylinder_0 rfl (lv_at hl 0 rfl) ?_
  exact x_VB (i := 0) (As := []) (rest := []) hQ htab hlk (kX_requireRoomForPart_b hl9 hA hsX0 ⟨hsP1, hsP2, hsP3, hsP4, hsP5, hsP6, hsP7, hsP8⟩ (by omega)) calX_requireRoomForPart cvX_requireRoomForPart mlX_37 hx hb hml hown hts hB hG hK hS hXS (by decide) hsX0 rfl ⟨by decide, by decide⟩ rfl hl.1 rfl (Nat.le_of_ble_eq_true rfl) dX_cylinder_1 ⟨by decide, by decide⟩ (by decide) (by decide)

abbrev rmX_cylinder_z : Room := { frames := 7, cells := 1, slots := 6, locals := 102 }
set_option maxRecDepth 100000 in
set_option maxHeartbeats 4000000 in
theorem kX_cylinder_z {l : Launch} (hl9 : l.stackTraces = false) {D : va_G} {k : ClassId × ClassId × ClassId} {a : Nat → Nat} {B0 : Nat} {w : Nat → va_E} (hA : gA B0 a) {n : Nat} {up : Nat → Int64} {lo : Nat → Int64} {fa : Nat → Int32} {we : Nat → Int32} {ti : Nat → Int32} {ri : Nat → Int32} {jo : Nat → Int32} (hsX : sX k a w ) (hsP : sP k a w n up lo fa we ti ri jo) (x : Int32) (y : Int32) (hn : n < 12) (hz : ¬ (szR x ∧ szR y)) : xMet l yX_cylinder cX_cylinder 3 (some .int) rmX_cylinder_z D k a B0 w [.ref (a 0), .int x, .int y] eIAE := by
  have hsX0 := hsX
  obtain ⟨hsP1, hsP2, hsP3, hsP4, hsP5, hsP6, hsP7, hsP8⟩ := hsP
  refine x_ofW (by decide) rfl (fun p e s m args below meth c Q hQ htab hx hb hr hlk hml hown hts hB hG hK hS hXS ls hl => ?_)
  have hl : lv_has ls 3 [(0, .ref (a 0)), (1, .int x), (2, .int y)] := hl
  have hown : s.vm.findClass RX = some m.cls := hown
  refine lv_aload_n hx hb dX_cylinder_0 rfl (lv_at hl 0 rfl) ?_
  refine g_VvR (i := 0) (As := []) (rest := []) (kX_requireRoomForPart hA hsX0 ⟨hsP1, hsP2, hsP3, hsP4, hsP5, hsP6, hsP7, hsP8⟩ (by omega)) calX_requireRoomForPart cvX_requireRoomForPart mlX_37 hx hb hml hown hts hB hG hK hS (by decide) hsX0 rfl ⟨by decide, by decide⟩ rfl hl.1 rfl (Nat.le_of_ble_eq_true rfl) dX_cylinder_1 ⟨by decide, by decide⟩ (fun H locs hG hS => ?_)
  refine lv_iload_n hx hb dX_cylinder_4 rfl (lv_at hl 1 rfl) ?_
  by_cases hs1 : szR x
  · refine g_SvR (As := [.int x]) (rest := []) (kX_requireSize hA x (by assumption)) calX_requireSize cvX_requireSize mlX_40 hx hb hml hown hts hB hG hK hS ⟨by decide, by decide⟩ rfl hl.1 rfl (Nat.le_of_ble_eq_true rfl) dX_cylinder_5 ⟨by decide, by decide⟩ (fun H locs hG hS => ?_)
    refine lv_iload_n hx hb dX_cylinder_8 rfl (lv_at hl 2 rfl) ?_
    by_cases hs2 : szR y
    · refine g_SvR (As := [.int y]) (rest := []) (kX_requireSize hA y (by assumption)) calX_requireSize cvX_requireSize mlX_40 hx hb hml hown hts hB hG hK hS ⟨by decide, by decide⟩ rfl hl.1 rfl (Nat.le_of_ble_eq_true rfl) dX_cylinder_9 ⟨by decide, by decide⟩ (fun H locs hG hS => ?_)
      exact absurd ⟨by assumption, by assumption⟩ hz
    · exact x_SB (As := [.int y]) (rest := []) hQ htab hlk (kX_requireSize_b hl9 hA y (by assumption)) calX_requireSize cvX_requireSize mlX_40 hx hb hml hown hts hB hG hK hS hXS ⟨by decide, by decide⟩ rfl hl.1 rfl (Nat.le_of_ble_eq_true rfl) dX_cylinder_9 ⟨by decide, by decide⟩ (by decide) (by decide)
  · exact x_SB (As := [.int x]) (rest := []) hQ htab hlk (kX_requireSize_b hl9 hA x (by assumption)) calX_requireSize cvX_requireSize mlX_40 hx hb hml hown hts hB hG hK hS hXS ⟨by decide, by decide⟩ rfl hl.1 rfl (Nat.le_of_ble_eq_true rfl) dX_cylinder_5 ⟨by decide, by decide⟩ (by decide) (by decide)

abbrev rmX_face : Room := { frames := 2, cells := 0, slots := 0, locals := 42 }
set_option maxRecDepth 100000 in
set_option maxHeartbeats 4000000 in
theorem kX_face {l : Launch} {D : va_G} {k : ClassId × ClassId × ClassId} {a : Nat → Nat} {B0 : Nat} {w : Nat → va_E} (hA : gA B0 a) {n : Nat} {up : Nat → Int64} {lo : Nat → Int64} {fa : Nat → Int32} {we : Nat → Int32} {ti : Nat → Int32} {ri : Nat → Int32} {jo : Nat → Int32} (hsX : sX k a w ) (hsP : sP k a w n up lo fa we ti ri jo) (j : Nat) (g : Nat) (h : Int32) (hj : j < n) (hn : n ≤ 12) (hg : g < 6) (hfa : ¬ fa j ≤ nI g) (hh : rngI h 0 2) : Met l yX_face (tbw yX_face cX_face 4 none) rmX_face (gPc D k a B0 w [.ref (a 0), .int (nI j), .int (nI g), .int h]) (va_Qv (fun w1 => (sP k a w1 n up (vp_updL lo j (lo j + (we (j * 6 + g)).toInt64 * (h - ti (j * 6 + g)).toInt64)) fa we (upd ti (j * 6 + g) h) ri jo) ∧ ∀ z, z < 1 ∨ 8 < z → w1 z = w z) (gB D k a) (gF B0)) 0 0 (gF B0) := by
  have hsX0 := hsX
  obtain ⟨hsP1, hsP2, hsP3, hsP4, hsP5, hsP6, hsP7, hsP8⟩ := hsP
  refine g_ofW (by decide) rfl (fun p e s m args below meth c Q hQ hx hb hr hlk hml hown hts hB hG hK hS ls hl => ?_)
  have hl : lv_has ls 4 [(0, .ref (a 0)), (1, .int (nI j)), (2, .int (nI g)), (3, .int h)] := hl
  have hown : s.vm.findClass RX = some m.cls := hown
  have hfr0 : ∀ z, z < 1 ∨ 8 < z → w z = w z := fun _ _ => rfl
  refine lv_aload_n hx hb dX_face_0 rfl (lv_at hl 0 rfl) ?_
  refine lv_iload_n hx hb dX_face_1 rfl (lv_at hl 1 rfl) ?_
  refine g_VvR (i := 0) (As := [.int (nI j)]) (rest := []) (kX_requirePart hA hsX0 ⟨hsP1, hsP2, hsP3, hsP4, hsP5, hsP6, hsP7, hsP8⟩ j (by omega) (by omega)) calX_requirePart cvX_requirePart mlX_52 hx hb hml hown hts hB hG hK hS (by decide) hsX0 rfl ⟨by decide, by decide⟩ rfl hl.1 rfl (Nat.le_of_ble_eq_true rfl) dX_face_2 ⟨by decide, by decide⟩ (fun H locs hG hS => ?_)
  refine lv_aload_n hx hb dX_face_5 rfl (lv_at hl 0 rfl) ?_
  refine g_get hx hb hts inX hown hK hG 0 (by decide) hsX0 rfl 0 (by decide) lkX_10 rfl dX_face_6 ?_
  refine lv_iload_n hx hb dX_face_9 rfl (lv_at hl 1 rfl) ?_
  refine lv_iload_n hx hb dX_face_10 rfl (lv_at hl 2 rfl) ?_
  refine g_ViR (i := 1) (As := [.int (nI j), .int (nI g)]) (rest := []) (kP_hasFace hA ⟨hsP1, hsP2, hsP3, hsP4, hsP5, hsP6, hsP7, hsP8⟩ j (nI g) (by omega)) calP_hasFace cvP_hasFace mlX_55 hx hb hml hown hts hB hG hK hS (by decide) hsP1 rfl ⟨by decide, by decide⟩ rfl hl.1 rfl (Nat.le_of_ble_eq_true rfl) dX_face_11 ⟨by decide, by decide⟩ (fun H locs hG hS => ?_)
  refine lb_if_ne (tgt := 27) hx hb dX_face_14 (by decide) (fun c1 => ?_) (fun c1 => ?_)
  · refine lv_iload_n hx hb dX_face_27 rfl (lv_at hl 3 rfl) ?_
    refine lv_if_lt (tgt := 36) hx hb dX_face_28 (by decide) (fun c2 => ?_) (fun c2 => ?_)
    · exfalso
      first | exact absurd (by assumption) hh.1 | exact absurd (Int32.not_le.mp (by assumption)) hh.2
    · refine lv_iload_n hx hb dX_face_31 rfl (lv_at hl 3 rfl) ?_
      refine lv_iconst (v := 2) hx hb dX_face_32 (by decide) ?_
      refine lv_icmp_le (tgt := 46) hx hb dX_face_33 (by decide) (fun c3 => ?_) (fun c3 => ?_)
      · refine lv_aload_n hx hb dX_face_46 rfl (lv_at hl 0 rfl) ?_
        refine g_get hx hb hts inX hown hK hG 0 (by decide) hsX0 rfl 0 (by decide) lkX_10 rfl dX_face_47 ?_
        refine lv_iload_n hx hb dX_face_50 rfl (lv_at hl 1 rfl) ?_
        refine lv_iload_n hx hb dX_face_51 rfl (lv_at hl 2 rfl) ?_
        refine lv_iload_n hx hb dX_face_52 rfl (lv_at hl 3 rfl) ?_
        refine g_Vv (i := 1) (As := [.int (nI j), .int (nI g), .int h]) (rest := []) (kP_setTimes hA ⟨hsP1, hsP2, hsP3, hsP4, hsP5, hsP6, hsP7, hsP8⟩ j g h (by omega) (by omega)) calP_setTimes cvP_setTimes mlX_71 hx hb hml hown hts hB hG hK hS (by decide) hsP1 rfl ⟨by decide, by decide⟩ rfl hl.1 rfl (Nat.le_of_ble_eq_true rfl) dX_face_53 ⟨by decide, by decide⟩ (fun w5 H locs hp6 hG hS => ?_)
        obtain ⟨⟨h7, h8, h9, h10, h11, h12, h13, h14⟩, hfr16⟩ := hp6
        have h17 : w5 0 = .inr (0, [.ref (a 1), .ref (a 9), .ref (a 12), .ref (a 15)]) := (hfr16 0 (by omega)).trans hsX0
        have hfr18 : ∀ z, z < 1 ∨ 8 < z → w5 z = w z := fun z hz => (hfr16 z (by omega)).trans (hfr0 z hz)
        exact g_vret hQ hx hb hr hlk hG hK hS (by decide) (by decide) ⟨⟨h7, h8, h9, h10, h11, h12, h13, h14⟩, hfr18⟩ dX_face_56
      · exfalso
        first | exact absurd (by assumption) hh.1 | exact absurd (Int32.not_le.mp (by assumption)) hh.2
  · exfalso
    exact (by assumption : ¬ (¬ nI g < 0 ∧ ¬ fa j ≤ nI g)) ⟨nI_pos (by omega), hfa⟩

abbrev rmX_face_p : Room := { frames := 7, cells := 1, slots := 6, locals := 103 }
set_option maxRecDepth 100000 in
set_option maxHeartbeats 4000000 in
theorem kX_face_p {l : Launch} (hl9 : l.stackTraces = false) {D : va_G} {k : ClassId × ClassId × ClassId} {a : Nat → Nat} {B0 : Nat} {w : Nat → va_E} (hA : gA B0 a) {n : Nat} {up : Nat → Int64} {lo : Nat → Int64} {fa : Nat → Int32} {we : Nat → Int32} {ti : Nat → Int32} {ri : Nat → Int32} {jo : Nat → Int32} (hsX : sX k a w ) (hsP : sP k a w n up lo fa we ti ri jo) (q : Int32) (f : Int32) (h : Int32) (hq : ¬ (¬ q < 0 ∧ ¬ nI n ≤ q)) : xMet l yX_face cX_face 4 none rmX_face_p D k a B0 w [.ref (a 0), .int q, .int f, .int h] eIOB := by
  have hsX0 := hsX
  obtain ⟨hsP1, hsP2, hsP3, hsP4, hsP5, hsP6, hsP7, hsP8⟩ := hsP
  refine x_ofW (by decide) rfl (fun p e s m args below meth c Q hQ htab hx hb hr hlk hml hown hts hB hG hK hS hXS ls hl => ?_)
  have hl : lv_has ls 4 [(0, .ref (a 0)), (1, .int q), (2, .int f), (3, .int h)] := hl
  have hown : s.vm.findClass RX = some m.cls := hown
  refine lv_aload_n hx hb dX_face_0 rfl (lv_at hl 0 rfl) ?_
  refine lv_iload_n hx hb dX_face_1 rfl (lv_at hl 1 rfl) ?_
  exact x_VB (i := 0) (As := [.int q]) (rest := []) hQ htab hlk (kX_requirePart_b hl9 hA hsX0 ⟨hsP1, hsP2, hsP3, hsP4, hsP5, hsP6, hsP7, hsP8⟩ q (by assumption)) calX_requirePart cvX_requirePart mlX_52 hx hb hml hown hts hB hG hK hS hXS (by decide) hsX0 rfl ⟨by decide, by decide⟩ rfl hl.1 rfl (Nat.le_of_ble_eq_true rfl) dX_face_2 ⟨by decide, by decide⟩ (by decide) (by decide)

abbrev rmX_face_f : Room := { frames := 7, cells := 1, slots := 6, locals := 103 }
set_option maxRecDepth 100000 in
set_option maxHeartbeats 4000000 in
theorem kX_face_f {l : Launch} (hl9 : l.stackTraces = false) {D : va_G} {k : ClassId × ClassId × ClassId} {a : Nat → Nat} {B0 : Nat} {w : Nat → va_E} (hA : gA B0 a) {n : Nat} {up : Nat → Int64} {lo : Nat → Int64} {fa : Nat → Int32} {we : Nat → Int32} {ti : Nat → Int32} {ri : Nat → Int32} {jo : Nat → Int32} (hsX : sX k a w ) (hsP : sP k a w n up lo fa we ti ri jo) (j : Nat) (f : Int32) (h : Int32) (hj : j < n) (hn : n ≤ 12) (hf : ¬ (¬ f < 0 ∧ ¬ fa j ≤ f)) : xMet l yX_face cX_face 4 none rmX_face_f D k a B0 w [.ref (a 0), .int (nI j), .int f, .int h] eIOB := by
  have hsX0 := hsX
  obtain ⟨hsP1, hsP2, hsP3, hsP4, hsP5, hsP6, hsP7, hsP8⟩ := hsP
  refine x_ofW (by decide) rfl (fun p e s m args below meth c Q hQ htab hx hb hr hlk hml hown hts hB hG hK hS hXS ls hl => ?_)
  have hl : lv_has ls 4 [(0, .ref (a 0)), (1, .int (nI j)), (2, .int f), (3, .int h)] := hl
  have hown : s.vm.findClass RX = some m.cls := hown
  refine lv_aload_n hx hb dX_face_0 rfl (lv_at hl 0 rfl) ?_
  refine lv_iload_n hx hb dX_face_1 rfl (lv_at hl 1 rfl) ?_
  refine g_VvR (i := 0) (As := [.int (nI j)]) (rest := []) (kX_requirePart hA hsX0 ⟨hsP1, hsP2, hsP3, hsP4, hsP5, hsP6, hsP7, hsP8⟩ j (by omega) (by omega)) calX_requirePart cvX_requirePart mlX_52 hx hb hml hown hts hB hG hK hS (by decide) hsX0 rfl ⟨by decide, by decide⟩ rfl hl.1 rfl (Nat.le_of_ble_eq_true rfl) dX_face_2 ⟨by decide, by decide⟩ (fun H locs hG hS => ?_)
  refine lv_aload_n hx hb dX_face_5 rfl (lv_at hl 0 rfl) ?_
  refine g_get hx hb hts inX hown hK hG 0 (by decide) hsX0 rfl 0 (by decide) lkX_10 rfl dX_face_6 ?_
  refine lv_iload_n hx hb dX_face_9 rfl (lv_at hl 1 rfl) ?_
  refine lv_iload_n hx hb dX_face_10 rfl (lv_at hl 2 rfl) ?_
  refine g_ViR (i := 1) (As := [.int (nI j), .int f]) (rest := []) (kP_hasFace hA ⟨hsP1, hsP2, hsP3, hsP4, hsP5, hsP6, hsP7, hsP8⟩ j f (by omega)) calP_hasFace cvP_hasFace mlX_55 hx hb hml hown hts hB hG hK hS (by decide) hsP1 rfl ⟨by decide, by decide⟩ rfl hl.1 rfl (Nat.le_of_ble_eq_true rfl) dX_face_11 ⟨by decide, by decide⟩ (fun H locs hG hS => ?_)
  refine lb_if_ne (tgt := 27) hx hb dX_face_14 (by decide) (fun c1 => ?_) (fun c1 => ?_)
  · exact absurd c1 hf
  · exact x_throw hQ hl9 xok_eIOB (show ((61 : Nat), "no such face") ∈ xStr by decide +kernel) hx hb hml hown hts hG hK hS hXS hlk htab hl.1 dX_face_17 dX_face_20 dX_face_21 dX_face_23 dX_face_26 (by decide) (by decide) (by decide) (by decide) (by decide) (by decide)

abbrev rmX_face_h : Room := { frames := 7, cells := 1, slots := 6, locals := 103 }
set_option maxRecDepth 100000 in
set_option maxHeartbeats 4000000 in
theorem kX_face_h {l : Launch} (hl9 : l.stackTraces = false) {D : va_G} {k : ClassId × ClassId × ClassId} {a : Nat → Nat} {B0 : Nat} {w : Nat → va_E} (hA : gA B0 a) {n : Nat} {up : Nat → Int64} {lo : Nat → Int64} {fa : Nat → Int32} {we : Nat → Int32} {ti : Nat → Int32} {ri : Nat → Int32} {jo : Nat → Int32} (hsX : sX k a w ) (hsP : sP k a w n up lo fa we ti ri jo) (j : Nat) (f : Int32) (h : Int32) (hj : j < n) (hn : n ≤ 12) (hf : ¬ f < 0 ∧ ¬ fa j ≤ f) (hh : ¬ rngI h 0 2) : xMet l yX_face cX_face 4 none rmX_face_h D k a B0 w [.ref (a 0), .int (nI j), .int f, .int h] eIAE := by
  have hsX0 := hsX
  obtain ⟨hsP1, hsP2, hsP3, hsP4, hsP5, hsP6, hsP7, hsP8⟩ := hsP
  refine x_ofW (by decide) rfl (fun p e s m args below meth c Q hQ htab hx hb hr hlk hml hown hts hB hG hK hS hXS ls hl => ?_)
  have hl : lv_has ls 4 [(0, .ref (a 0)), (1, .int (nI j)), (2, .int f), (3, .int h)] := hl
  have hown : s.vm.findClass RX = some m.cls := hown
  refine lv_aload_n hx hb dX_face_0 rfl (lv_at hl 0 rfl) ?_
  refine lv_iload_n hx hb dX_face_1 rfl (lv_at hl 1 rfl) ?_
  refine g_VvR (i := 0) (As := [.int (nI j)]) (rest := []) (kX_requirePart hA hsX0 ⟨hsP1, hsP2, hsP3, hsP4, hsP5, hsP6, hsP7, hsP8⟩ j (by omega) (by omega)) calX_requirePart cvX_requirePart mlX_52 hx hb hml hown hts hB hG hK hS (by decide) hsX0 rfl ⟨by decide, by decide⟩ rfl hl.1 rfl (Nat.le_of_ble_eq_true rfl) dX_face_2 ⟨by decide, by decide⟩ (fun H locs hG hS => ?_)
  refine lv_aload_n hx hb dX_face_5 rfl (lv_at hl 0 rfl) ?_
  refine g_get hx hb hts inX hown hK hG 0 (by decide) hsX0 rfl 0 (by decide) lkX_10 rfl dX_face_6 ?_
  refine lv_iload_n hx hb dX_face_9 rfl (lv_at hl 1 rfl) ?_
  refine lv_iload_n hx hb dX_face_10 rfl (lv_at hl 2 rfl) ?_
  refine g_ViR (i := 1) (As := [.int (nI j), .int f]) (rest := []) (kP_hasFace hA ⟨hsP1, hsP2, hsP3, hsP4, hsP5, hsP6, hsP7, hsP8⟩ j f (by omega)) calP_hasFace cvP_hasFace mlX_55 hx hb hml hown hts hB hG hK hS (by decide) hsP1 rfl ⟨by decide, by decide⟩ rfl hl.1 rfl (Nat.le_of_ble_eq_true rfl) dX_face_11 ⟨by decide, by decide⟩ (fun H locs hG hS => ?_)
  refine lb_if_ne (tgt := 27) hx hb dX_face_14 (by decide) (fun c1 => ?_) (fun c1 => ?_)
  · refine lv_iload_n hx hb dX_face_27 rfl (lv_at hl 3 rfl) ?_
    refine lv_if_lt (tgt := 36) hx hb dX_face_28 (by decide) (fun c2 => ?_) (fun c2 => ?_)
    · exact x_throw hQ hl9 xok_eIAE (show ((68 : Nat), "a face is 0, 1 or 2") ∈ xStr by decide +kernel) hx hb hml hown hts hG hK hS hXS hlk htab hl.1 dX_face_36 dX_face_39 dX_face_40 dX_face_42 dX_face_45 (by decide) (by decide) (by decide) (by decide) (by decide) (by decide)
    · refine lv_iload_n hx hb dX_face_31 rfl (lv_at hl 3 rfl) ?_
      refine lv_iconst (v := 2) hx hb dX_face_32 (by decide) ?_
      refine lv_icmp_le (tgt := 46) hx hb dX_face_33 (by decide) (fun c3 => ?_) (fun c3 => ?_)
      · exact absurd ⟨by assumption, Int32.not_lt.mpr (by assumption)⟩ hh
      · exact x_throw hQ hl9 xok_eIAE (show ((68 : Nat), "a face is 0, 1 or 2") ∈ xStr by decide +kernel) hx hb hml hown hts hG hK hS hXS hlk htab hl.1 dX_face_36 dX_face_39 dX_face_40 dX_face_42 dX_face_45 (by decide) (by decide) (by decide) (by decide) (by decide) (by decide)
  · exact absurd hf c1

abbrev rmX_modulus : Room := { frames := 2, cells := 0, slots := 0, locals := 58 }
set_option maxRecDepth 100000 in
set_option maxHeartbeats 4000000 in
theorem kX_modulus {l : Launch} {D : va_G} {k : ClassId × ClassId × ClassId} {a : Nat → Nat} {B0 : Nat} {w : Nat → va_E} (hA : gA B0 a) {n : Nat} {up : Nat → Int64} {lo : Nat → Int64} {fa : Nat → Int32} {we : Nat → Int32} {ti : Nat → Int32} {ri : Nat → Int32} {jo : Nat → Int32} (hsX : sX k a w ) (hsP : sP k a w n up lo fa we ti ri jo) (j : Nat) (q : Int32) (hj : j < n) (hn : n ≤ 12) (hw : rngI q 0 1) (ht : 0 < lo j) : Met l yX_modulus (tbw yX_modulus cX_modulus 3 (some .long)) rmX_modulus (gPc D k a B0 w [.ref (a 0), .int (nI j), .int q]) (va_Ql (roP (lowT (up j) (lo j) q) w) (gB D k a) (gF B0)) 0 0 (gF B0) := by
  have hsX0 := hsX
  obtain ⟨hsP1, hsP2, hsP3, hsP4, hsP5, hsP6, hsP7, hsP8⟩ := hsP
  refine g_ofW (by decide) rfl (fun p e s m args below meth c Q hQ hx hb hr hlk hml hown hts hB hG hK hS ls hl => ?_)
  have hl : lv_has ls 3 [(0, .ref (a 0)), (1, .int (nI j)), (2, .int q)] := hl
  have hown : s.vm.findClass RX = some m.cls := hown
  refine lv_aload_n hx hb dX_modulus_0 rfl (lv_at hl 0 rfl) ?_
  refine lv_iload_n hx hb dX_modulus_1 rfl (lv_at hl 1 rfl) ?_
  refine g_VvR (i := 0) (As := [.int (nI j)]) (rest := []) (kX_requirePart hA hsX0 ⟨hsP1, hsP2, hsP3, hsP4, hsP5, hsP6, hsP7, hsP8⟩ j (by omega) (by omega)) calX_requirePart cvX_requirePart mlX_52 hx hb hml hown hts hB hG hK hS (by decide) hsX0 rfl ⟨by decide, by decide⟩ rfl hl.1 rfl (Nat.le_of_ble_eq_true rfl) dX_modulus_2 ⟨by decide, by decide⟩ (fun H locs hG hS => ?_)
  refine lv_iload_n hx hb dX_modulus_5 rfl (lv_at hl 2 rfl) ?_
  refine lv_if_lt (tgt := 14) hx hb dX_modulus_6 (by decide) (fun c1 => ?_) (fun c1 => ?_)
  · exfalso
    first | exact absurd (by assumption) hw.1 | exact absurd (Int32.not_le.mp (by assumption)) hw.2
  · refine lv_iload_n hx hb dX_modulus_9 rfl (lv_at hl 2 rfl) ?_
    refine lv_iconst (v := 1) hx hb dX_modulus_10 (by decide) ?_
    refine lv_icmp_le (tgt := 24) hx hb dX_modulus_11 (by decide) (fun c2 => ?_) (fun c2 => ?_)
    · refine lv_aload_n hx hb dX_modulus_24 rfl (lv_at hl 0 rfl) ?_
      refine lv_iload_n hx hb dX_modulus_25 rfl (lv_at hl 1 rfl) ?_
      refine g_VvR (i := 0) (As := [.int (nI j)]) (rest := []) (kX_requireTold hA hsX0 ⟨hsP1, hsP2, hsP3, hsP4, hsP5, hsP6, hsP7, hsP8⟩ j (by omega) (by assumption)) calX_requireTold cvX_requireTold mlX_77 hx hb hml hown hts hB hG hK hS (by decide) hsX0 rfl ⟨by decide, by decide⟩ rfl hl.1 rfl (Nat.le_of_ble_eq_true rfl) dX_modulus_26 ⟨by decide, by decide⟩ (fun H locs hG hS => ?_)
      refine lv_aload_n hx hb dX_modulus_29 rfl (lv_at hl 0 rfl) ?_
      refine g_get hx hb hts inX hown hK hG 0 (by decide) hsX0 rfl 0 (by decide) lkX_10 rfl dX_modulus_30 ?_
      refine lv_iload_n hx hb dX_modulus_33 rfl (lv_at hl 1 rfl) ?_
      refine g_VlR (i := 1) (As := [.int (nI j)]) (rest := []) (kP_upper hA ⟨hsP1, hsP2, hsP3, hsP4, hsP5, hsP6, hsP7, hsP8⟩ j (by omega)) calP_upper cvP_upper mlX_80 hx hb hml hown hts hB hG hK hS (by decide) hsP1 rfl ⟨by decide, by decide⟩ rfl hl.1 rfl (Nat.le_of_ble_eq_true rfl) dX_modulus_34 ⟨by decide, by decide⟩ (fun H locs hG hS => ?_)
      refine lv_aload_n hx hb dX_modulus_37 rfl (lv_at hl 0 rfl) ?_
      refine g_get hx hb hts inX hown hK hG 0 (by decide) hsX0 rfl 0 (by decide) lkX_10 rfl dX_modulus_38 ?_
      refine lv_iload_n hx hb dX_modulus_41 rfl (lv_at hl 1 rfl) ?_
      refine g_VlR (i := 1) (As := [.int (nI j)]) (rest := [.long (up j)]) (kP_lower hA ⟨hsP1, hsP2, hsP3, hsP4, hsP5, hsP6, hsP7, hsP8⟩ j (by omega)) calP_lower cvP_lower mlX_84 hx hb hml hown hts hB hG hK hS (by decide) hsP1 rfl ⟨by decide, by decide⟩ rfl hl.1 rfl (Nat.le_of_ble_eq_true rfl) dX_modulus_42 ⟨by decide, by decide⟩ (fun H locs hG hS => ?_)
      refine lv_iload_n hx hb dX_modulus_45 rfl (lv_at hl 2 rfl) ?_
      refine g_SlR (As := [.long (up j), .long (lo j), .int q]) (rest := []) (kX_inLowestTerms hA (up j) (lo j) q) calX_inLowestTerms cvX_inLowestTerms mlX_87 hx hb hml hown hts hB hG hK hS ⟨by decide, by decide⟩ rfl hl.1 rfl (Nat.le_of_ble_eq_true rfl) dX_modulus_46 ⟨by decide, by decide⟩ (fun H locs hG hS => ?_)
      exact g_lret hQ hx hb hr hlk hG hK hS (by decide) (by decide) ⟨by first | rfl | omega | (simp_all; done) | grind, rfl⟩ dX_modulus_49
    · exfalso
      first | exact absurd (by assumption) hw.1 | exact absurd (Int32.not_le.mp (by assumption)) hw.2

abbrev rmX_modulus_p : Room := { frames := 7, cells := 1, slots := 6, locals := 103 }
set_option maxRecDepth 100000 in
set_option maxHeartbeats 4000000 in
theorem kX_modulus_p {l : Launch} (hl9 : l.stackTraces = false) {D : va_G} {k : ClassId × ClassId × ClassId} {a : Nat → Nat} {B0 : Nat} {w : Nat → va_E} (hA : gA B0 a) {n : Nat} {up : Nat → Int64} {lo : Nat → Int64} {fa : Nat → Int32} {we : Nat → Int32} {ti : Nat → Int32} {ri : Nat → Int32} {jo : Nat → Int32} (hsX : sX k a w ) (hsP : sP k a w n up lo fa we ti ri jo) (q : Int32) (r : Int32) (hq : ¬ (¬ q < 0 ∧ ¬ nI n ≤ q)) : xMet l yX_modulus cX_modulus 3 (some .long) rmX_modulus_p D k a B0 w [.ref (a 0), .int q, .int r] eIOB := by
  have hsX0 := hsX
  obtain ⟨hsP1, hsP2, hsP3, hsP4, hsP5, hsP6, hsP7, hsP8⟩ := hsP
  refine x_ofW (by decide) rfl (fun p e s m args below meth c Q hQ htab hx hb hr hlk hml hown hts hB hG hK hS hXS ls hl => ?_)
  have hl : lv_has ls 3 [(0, .ref (a 0)), (1, .int q), (2, .int r)] := hl
  have hown : s.vm.findClass RX = some m.cls := hown
  refine lv_aload_n hx hb dX_modulus_0 rfl (lv_at hl 0 rfl) ?_
  refine lv_iload_n hx hb dX_modulus_1 rfl (lv_at hl 1 rfl) ?_
  exact x_VB (i := 0) (As := [.int q]) (rest := []) hQ htab hlk (kX_requirePart_b hl9 hA hsX0 ⟨hsP1, hsP2, hsP3, hsP4, hsP5, hsP6, hsP7, hsP8⟩ q (by assumption)) calX_requirePart cvX_requirePart mlX_52 hx hb hml hown hts hB hG hK hS hXS (by decide) hsX0 rfl ⟨by decide, by decide⟩ rfl hl.1 rfl (Nat.le_of_ble_eq_true rfl) dX_modulus_2 ⟨by decide, by decide⟩ (by decide) (by decide)

abbrev rmX_modulus_w : Room := { frames := 7, cells := 1, slots := 6, locals := 103 }
set_option maxRecDepth 100000 in
set_option maxHeartbeats 4000000 in
theorem kX_modulus_w {l : Launch} (hl9 : l.stackTraces = false) {D : va_G} {k : ClassId × ClassId × ClassId} {a : Nat → Nat} {B0 : Nat} {w : Nat → va_E} (hA : gA B0 a) {n : Nat} {up : Nat → Int64} {lo : Nat → Int64} {fa : Nat → Int32} {we : Nat → Int32} {ti : Nat → Int32} {ri : Nat → Int32} {jo : Nat → Int32} (hsX : sX k a w ) (hsP : sP k a w n up lo fa we ti ri jo) (j : Nat) (r : Int32) (hj : j < n) (hn : n ≤ 12) (hw : ¬ rngI r 0 1) : xMet l yX_modulus cX_modulus 3 (some .long) rmX_modulus_w D k a B0 w [.ref (a 0), .int (nI j), .int r] eIOB := by
  have hsX0 := hsX
  obtain ⟨hsP1, hsP2, hsP3, hsP4, hsP5, hsP6, hsP7, hsP8⟩ := hsP
  refine x_ofW (by decide) rfl (fun p e s m args below meth c Q hQ htab hx hb hr hlk hml hown hts hB hG hK hS hXS ls hl => ?_)
  have hl : lv_has ls 3 [(0, .ref (a 0)), (1, .int (nI j)), (2, .int r)] := hl
  have hown : s.vm.findClass RX = some m.cls := hown
  refine lv_aload_n hx hb dX_modulus_0 rfl (lv_at hl 0 rfl) ?_
  refine lv_iload_n hx hb dX_modulus_1 rfl (lv_at hl 1 rfl) ?_
  refine g_VvR (i := 0) (As := [.int (nI j)]) (rest := []) (kX_requirePart hA hsX0 ⟨hsP1, hsP2, hsP3, hsP4, hsP5, hsP6, hsP7, hsP8⟩ j (by omega) (by omega)) calX_requirePart cvX_requirePart mlX_52 hx hb hml hown hts hB hG hK hS (by decide) hsX0 rfl ⟨by decide, by decide⟩ rfl hl.1 rfl (Nat.le_of_ble_eq_true rfl) dX_modulus_2 ⟨by decide, by decide⟩ (fun H locs hG hS => ?_)
  refine lv_iload_n hx hb dX_modulus_5 rfl (lv_at hl 2 rfl) ?_
  refine lv_if_lt (tgt := 14) hx hb dX_modulus_6 (by decide) (fun c1 => ?_) (fun c1 => ?_)
  · exact x_throw hQ hl9 xok_eIOB (show ((75 : Nat), "a fraction has the parts 0 and 1") ∈ xStr by decide +kernel) hx hb hml hown hts hG hK hS hXS hlk htab hl.1 dX_modulus_14 dX_modulus_17 dX_modulus_18 dX_modulus_20 dX_modulus_23 (by decide) (by decide) (by decide) (by decide) (by decide) (by decide)
  · refine lv_iload_n hx hb dX_modulus_9 rfl (lv_at hl 2 rfl) ?_
    refine lv_iconst (v := 1) hx hb dX_modulus_10 (by decide) ?_
    refine lv_icmp_le (tgt := 24) hx hb dX_modulus_11 (by decide) (fun c2 => ?_) (fun c2 => ?_)
    · exact absurd ⟨by assumption, Int32.not_lt.mpr (by assumption)⟩ hw
    · exact x_throw hQ hl9 xok_eIOB (show ((75 : Nat), "a fraction has the parts 0 and 1") ∈ xStr by decide +kernel) hx hb hml hown hts hG hK hS hXS hlk htab hl.1 dX_modulus_14 dX_modulus_17 dX_modulus_18 dX_modulus_20 dX_modulus_23 (by decide) (by decide) (by decide) (by decide) (by decide) (by decide)

abbrev rmX_modulus_t : Room := { frames := 7, cells := 1, slots := 6, locals := 103 }
set_option maxRecDepth 100000 in
set_option maxHeartbeats 4000000 in
theorem kX_modulus_t {l : Launch} (hl9 : l.stackTraces = false) {D : va_G} {k : ClassId × ClassId × ClassId} {a : Nat → Nat} {B0 : Nat} {w : Nat → va_E} (hA : gA B0 a) {n : Nat} {up : Nat → Int64} {lo : Nat → Int64} {fa : Nat → Int32} {we : Nat → Int32} {ti : Nat → Int32} {ri : Nat → Int32} {jo : Nat → Int32} (hsX : sX k a w ) (hsP : sP k a w n up lo fa we ti ri jo) (j : Nat) (r : Int32) (hj : j < n) (hn : n ≤ 12) (hw : rngI r 0 1) (ht : ¬ 0 < lo j) : xMet l yX_modulus cX_modulus 3 (some .long) rmX_modulus_t D k a B0 w [.ref (a 0), .int (nI j), .int r] eUOE := by
  have hsX0 := hsX
  obtain ⟨hsP1, hsP2, hsP3, hsP4, hsP5, hsP6, hsP7, hsP8⟩ := hsP
  refine x_ofW (by decide) rfl (fun p e s m args below meth c Q hQ htab hx hb hr hlk hml hown hts hB hG hK hS hXS ls hl => ?_)
  have hl : lv_has ls 3 [(0, .ref (a 0)), (1, .int (nI j)), (2, .int r)] := hl
  have hown : s.vm.findClass RX = some m.cls := hown
  refine lv_aload_n hx hb dX_modulus_0 rfl (lv_at hl 0 rfl) ?_
  refine lv_iload_n hx hb dX_modulus_1 rfl (lv_at hl 1 rfl) ?_
  refine g_VvR (i := 0) (As := [.int (nI j)]) (rest := []) (kX_requirePart hA hsX0 ⟨hsP1, hsP2, hsP3, hsP4, hsP5, hsP6, hsP7, hsP8⟩ j (by omega) (by omega)) calX_requirePart cvX_requirePart mlX_52 hx hb hml hown hts hB hG hK hS (by decide) hsX0 rfl ⟨by decide, by decide⟩ rfl hl.1 rfl (Nat.le_of_ble_eq_true rfl) dX_modulus_2 ⟨by decide, by decide⟩ (fun H locs hG hS => ?_)
  refine lv_iload_n hx hb dX_modulus_5 rfl (lv_at hl 2 rfl) ?_
  refine lv_if_lt (tgt := 14) hx hb dX_modulus_6 (by decide) (fun c1 => ?_) (fun c1 => ?_)
  · exfalso
    first | exact absurd (by assumption) hw.1 | exact absurd (Int32.not_le.mp (by assumption)) hw.2
  · refine lv_iload_n hx hb dX_modulus_9 rfl (lv_at hl 2 rfl) ?_
    refine lv_iconst (v := 1) hx hb dX_modulus_10 (by decide) ?_
    refine lv_icmp_le (tgt := 24) hx hb dX_modulus_11 (by decide) (fun c2 => ?_) (fun c2 => ?_)
    · refine lv_aload_n hx hb dX_modulus_24 rfl (lv_at hl 0 rfl) ?_
      refine lv_iload_n hx hb dX_modulus_25 rfl (lv_at hl 1 rfl) ?_
      exact x_VB (i := 0) (As := [.int (nI j)]) (rest := []) hQ htab hlk (kX_requireTold_b hl9 hA hsX0 ⟨hsP1, hsP2, hsP3, hsP4, hsP5, hsP6, hsP7, hsP8⟩ j (by omega) (by assumption)) calX_requireTold cvX_requireTold mlX_77 hx hb hml hown hts hB hG hK hS hXS (by decide) hsX0 rfl ⟨by decide, by decide⟩ rfl hl.1 rfl (Nat.le_of_ble_eq_true rfl) dX_modulus_26 ⟨by decide, by decide⟩ (by decide) (by decide)
    · exfalso
      first | exact absurd (by assumption) hw.1 | exact absurd (Int32.not_le.mp (by assumption)) hw.2

abbrev rmX_join : Room := { frames := 2, cells := 0, slots := 0, locals := 42 }
set_option maxRecDepth 100000 in
set_option maxHeartbeats 4000000 in
theorem kX_join {l : Launch} {D : va_G} {k : ClassId × ClassId × ClassId} {a : Nat → Nat} {B0 : Nat} {w : Nat → va_E} (hA : gA B0 a) {n : Nat} {up : Nat → Int64} {lo : Nat → Int64} {fa : Nat → Int32} {we : Nat → Int32} {ti : Nat → Int32} {ri : Nat → Int32} {jo : Nat → Int32} (hsX : sX k a w ) (hsP : sP k a w n up lo fa we ti ri jo) (j : Nat) (i : Nat) (P : Prop) (hj : j < n) (hn : n ≤ 12) (hi : i < n) (hji : ¬ j = i) (hjo : ∀ z, z < 144 → narrow .boolean (.int (jo z)) = .int (jo z)) (hne : ¬ jo (j * 12 + i) = b2i P) : Met l yX_join (tbw yX_join cX_join 4 none) rmX_join (gPc D k a B0 w [.ref (a 0), .int (nI j), .int (nI i), .int (b2i P)]) (va_Qv (fun w1 => (sP k a w1 n up lo fa we ti ri (upd (upd jo (j * 12 + i) (b2i P)) (i * 12 + j) (b2i P))) ∧ ∀ z, z < 1 ∨ 8 < z → w1 z = w z) (gB D k a) (gF B0)) 0 0 (gF B0) := by
  have hsX0 := hsX
  obtain ⟨hsP1, hsP2, hsP3, hsP4, hsP5, hsP6, hsP7, hsP8⟩ := hsP
  refine g_ofW (by decide) rfl (fun p e s m args below meth c Q hQ hx hb hr hlk hml hown hts hB hG hK hS ls hl => ?_)
  have hl : lv_has ls 4 [(0, .ref (a 0)), (1, .int (nI j)), (2, .int (nI i)), (3, .int (b2i P))] := hl
  have hown : s.vm.findClass RX = some m.cls := hown
  have hfr0 : ∀ z, z < 1 ∨ 8 < z → w z = w z := fun _ _ => rfl
  refine lv_aload_n hx hb dX_join_0 rfl (lv_at hl 0 rfl) ?_
  refine lv_iload_n hx hb dX_join_1 rfl (lv_at hl 1 rfl) ?_
  refine g_VvR (i := 0) (As := [.int (nI j)]) (rest := []) (kX_requirePart hA hsX0 ⟨hsP1, hsP2, hsP3, hsP4, hsP5, hsP6, hsP7, hsP8⟩ j (by omega) (by omega)) calX_requirePart cvX_requirePart mlX_52 hx hb hml hown hts hB hG hK hS (by decide) hsX0 rfl ⟨by decide, by decide⟩ rfl hl.1 rfl (Nat.le_of_ble_eq_true rfl) dX_join_2 ⟨by decide, by decide⟩ (fun H locs hG hS => ?_)
  refine lv_aload_n hx hb dX_join_5 rfl (lv_at hl 0 rfl) ?_
  refine lv_iload_n hx hb dX_join_6 rfl (lv_at hl 2 rfl) ?_
  refine g_VvR (i := 0) (As := [.int (nI i)]) (rest := []) (kX_requirePart hA hsX0 ⟨hsP1, hsP2, hsP3, hsP4, hsP5, hsP6, hsP7, hsP8⟩ i (by omega) (by omega)) calX_requirePart cvX_requirePart mlX_52 hx hb hml hown hts hB hG hK hS (by decide) hsX0 rfl ⟨by decide, by decide⟩ rfl hl.1 rfl (Nat.le_of_ble_eq_true rfl) dX_join_7 ⟨by decide, by decide⟩ (fun H locs hG hS => ?_)
  refine lv_iload_n hx hb dX_join_10 rfl (lv_at hl 1 rfl) ?_
  refine lv_iload_n hx hb dX_join_11 rfl (lv_at hl 2 rfl) ?_
  refine ln_icmp_ne (x := j) (y := i) (tgt := 25) hx hb dX_join_12 (by decide) (by omega) (by omega) (fun c1 => ?_) (fun c1 => ?_)
  · refine lv_aload_n hx hb dX_join_25 rfl (lv_at hl 0 rfl) ?_
    refine g_get hx hb hts inX hown hK hG 0 (by decide) hsX0 rfl 0 (by decide) lkX_10 rfl dX_join_26 ?_
    refine lv_iload_n hx hb dX_join_29 rfl (lv_at hl 1 rfl) ?_
    refine lv_iload_n hx hb dX_join_30 rfl (lv_at hl 2 rfl) ?_
    refine g_ViR (i := 1) (As := [.int (nI j), .int (nI i)]) (rest := []) (kP_areJoined hA ⟨hsP1, hsP2, hsP3, hsP4, hsP5, hsP6, hsP7, hsP8⟩ j i (by omega) (by omega) (hjo _ (by omega))) calP_areJoined cvP_areJoined mlX_93 hx hb hml hown hts hB hG hK hS (by decide) hsP1 rfl ⟨by decide, by decide⟩ rfl hl.1 rfl (Nat.le_of_ble_eq_true rfl) dX_join_31 ⟨by decide, by decide⟩ (fun H locs hG hS => ?_)
    refine lv_iload_n hx hb dX_join_34 rfl (lv_at hl 3 rfl) ?_
    refine lv_icmp_ne (tgt := 48) hx hb dX_join_35 (by decide) (fun c2 => ?_) (fun c2 => ?_)
    · refine lv_aload_n hx hb dX_join_48 rfl (lv_at hl 0 rfl) ?_
      refine g_get hx hb hts inX hown hK hG 0 (by decide) hsX0 rfl 0 (by decide) lkX_10 rfl dX_join_49 ?_
      refine lv_iload_n hx hb dX_join_52 rfl (lv_at hl 1 rfl) ?_
      refine lv_iload_n hx hb dX_join_53 rfl (lv_at hl 2 rfl) ?_
      refine lv_iload_n hx hb dX_join_54 rfl (lv_at hl 3 rfl) ?_
      refine g_Vv (i := 1) (As := [.int (nI j), .int (nI i), .int (b2i P)]) (rest := []) (kP_setJoined hA ⟨hsP1, hsP2, hsP3, hsP4, hsP5, hsP6, hsP7, hsP8⟩ j i P (by omega) (by omega)) calP_setJoined cvP_setJoined mlX_101 hx hb hml hown hts hB hG hK hS (by decide) hsP1 rfl ⟨by decide, by decide⟩ rfl hl.1 rfl (Nat.le_of_ble_eq_true rfl) dX_join_55 ⟨by decide, by decide⟩ (fun w4 H locs hp5 hG hS => ?_)
      obtain ⟨⟨h6, h7, h8, h9, h10, h11, h12, h13⟩, hfr15⟩ := hp5
      have h16 : w4 0 = .inr (0, [.ref (a 1), .ref (a 9), .ref (a 12), .ref (a 15)]) := (hfr15 0 (by omega)).trans hsX0
      have hfr17 : ∀ z, z < 1 ∨ 8 < z → w4 z = w z := fun z hz => (hfr15 z (by omega)).trans (hfr0 z hz)
      exact g_vret hQ hx hb hr hlk hG hK hS (by decide) (by decide) ⟨⟨h6, h7, h8, h9, h10, h11, h12, h13⟩, hfr17⟩ dX_join_58
    · exfalso
      first | omega | contradiction | (simp_all; done) | grind
  · exfalso
    first | omega | contradiction | (simp_all; done) | grind

abbrev rmX_join_p : Room := { frames := 7, cells := 1, slots := 6, locals := 103 }
set_option maxRecDepth 100000 in
set_option maxHeartbeats 4000000 in
theorem kX_join_p {l : Launch} (hl9 : l.stackTraces = false) {D : va_G} {k : ClassId × ClassId × ClassId} {a : Nat → Nat} {B0 : Nat} {w : Nat → va_E} (hA : gA B0 a) {n : Nat} {up : Nat → Int64} {lo : Nat → Int64} {fa : Nat → Int32} {we : Nat → Int32} {ti : Nat → Int32} {ri : Nat → Int32} {jo : Nat → Int32} (hsX : sX k a w ) (hsP : sP k a w n up lo fa we ti ri jo) (q : Int32) (r : Int32) (P : Prop) (hq : ¬ (¬ q < 0 ∧ ¬ nI n ≤ q)) : xMet l yX_join cX_join 4 none rmX_join_p D k a B0 w [.ref (a 0), .int q, .int r, .int (b2i P)] eIOB := by
  have hsX0 := hsX
  obtain ⟨hsP1, hsP2, hsP3, hsP4, hsP5, hsP6, hsP7, hsP8⟩ := hsP
  refine x_ofW (by decide) rfl (fun p e s m args below meth c Q hQ htab hx hb hr hlk hml hown hts hB hG hK hS hXS ls hl => ?_)
  have hl : lv_has ls 4 [(0, .ref (a 0)), (1, .int q), (2, .int r), (3, .int (b2i P))] := hl
  have hown : s.vm.findClass RX = some m.cls := hown
  refine lv_aload_n hx hb dX_join_0 rfl (lv_at hl 0 rfl) ?_
  refine lv_iload_n hx hb dX_join_1 rfl (lv_at hl 1 rfl) ?_
  exact x_VB (i := 0) (As := [.int q]) (rest := []) hQ htab hlk (kX_requirePart_b hl9 hA hsX0 ⟨hsP1, hsP2, hsP3, hsP4, hsP5, hsP6, hsP7, hsP8⟩ q (by assumption)) calX_requirePart cvX_requirePart mlX_52 hx hb hml hown hts hB hG hK hS hXS (by decide) hsX0 rfl ⟨by decide, by decide⟩ rfl hl.1 rfl (Nat.le_of_ble_eq_true rfl) dX_join_2 ⟨by decide, by decide⟩ (by decide) (by decide)

abbrev rmX_join_r : Room := { frames := 7, cells := 1, slots := 6, locals := 103 }
set_option maxRecDepth 100000 in
set_option maxHeartbeats 4000000 in
theorem kX_join_r {l : Launch} (hl9 : l.stackTraces = false) {D : va_G} {k : ClassId × ClassId × ClassId} {a : Nat → Nat} {B0 : Nat} {w : Nat → va_E} (hA : gA B0 a) {n : Nat} {up : Nat → Int64} {lo : Nat → Int64} {fa : Nat → Int32} {we : Nat → Int32} {ti : Nat → Int32} {ri : Nat → Int32} {jo : Nat → Int32} (hsX : sX k a w ) (hsP : sP k a w n up lo fa we ti ri jo) (j : Nat) (q : Int32) (P : Prop) (hj : j < n) (hn : n ≤ 12) (hq : ¬ (¬ q < 0 ∧ ¬ nI n ≤ q)) : xMet l yX_join cX_join 4 none rmX_join_r D k a B0 w [.ref (a 0), .int (nI j), .int q, .int (b2i P)] eIOB := by
  have hsX0 := hsX
  obtain ⟨hsP1, hsP2, hsP3, hsP4, hsP5, hsP6, hsP7, hsP8⟩ := hsP
  refine x_ofW (by decide) rfl (fun p e s m args below meth c Q hQ htab hx hb hr hlk hml hown hts hB hG hK hS hXS ls hl => ?_)
  have hl : lv_has ls 4 [(0, .ref (a 0)), (1, .int (nI j)), (2, .int q), (3, .int (b2i P))] := hl
  have hown : s.vm.findClass RX = some m.cls := hown
  refine lv_aload_n hx hb dX_join_0 rfl (lv_at hl 0 rfl) ?_
  refine lv_iload_n hx hb dX_join_1 rfl (lv_at hl 1 rfl) ?_
  refine g_VvR (i := 0) (As := [.int (nI j)]) (rest := []) (kX_requirePart hA hsX0 ⟨hsP1, hsP2, hsP3, hsP4, hsP5, hsP6, hsP7, hsP8⟩ j (by omega) (by omega)) calX_requirePart cvX_requirePart mlX_52 hx hb hml hown hts hB hG hK hS (by decide) hsX0 rfl ⟨by decide, by decide⟩ rfl hl.1 rfl (Nat.le_of_ble_eq_true rfl) dX_join_2 ⟨by decide, by decide⟩ (fun H locs hG hS => ?_)
  refine lv_aload_n hx hb dX_join_5 rfl (lv_at hl 0 rfl) ?_
  refine lv_iload_n hx hb dX_join_6 rfl (lv_at hl 2 rfl) ?_
  exact x_VB (i := 0) (As := [.int q]) (rest := []) hQ htab hlk (kX_requirePart_b hl9 hA hsX0 ⟨hsP1, hsP2, hsP3, hsP4, hsP5, hsP6, hsP7, hsP8⟩ q (by assumption)) calX_requirePart cvX_requirePart mlX_52 hx hb hml hown hts hB hG hK hS hXS (by decide) hsX0 rfl ⟨by decide, by decide⟩ rfl hl.1 rfl (Nat.le_of_ble_eq_true rfl) dX_join_7 ⟨by decide, by decide⟩ (by decide) (by decide)

abbrev rmX_join_s : Room := { frames := 7, cells := 1, slots := 6, locals := 103 }
set_option maxRecDepth 100000 in
set_option maxHeartbeats 4000000 in
theorem kX_join_s {l : Launch} (hl9 : l.stackTraces = false) {D : va_G} {k : ClassId × ClassId × ClassId} {a : Nat → Nat} {B0 : Nat} {w : Nat → va_E} (hA : gA B0 a) {n : Nat} {up : Nat → Int64} {lo : Nat → Int64} {fa : Nat → Int32} {we : Nat → Int32} {ti : Nat → Int32} {ri : Nat → Int32} {jo : Nat → Int32} (hsX : sX k a w ) (hsP : sP k a w n up lo fa we ti ri jo) (j : Nat) (i : Nat) (P : Prop) (hj : j < n) (hn : n ≤ 12) (hi : i < n) (hji : j = i) : xMet l yX_join cX_join 4 none rmX_join_s D k a B0 w [.ref (a 0), .int (nI j), .int (nI i), .int (b2i P)] eIOB := by
  have hsX0 := hsX
  obtain ⟨hsP1, hsP2, hsP3, hsP4, hsP5, hsP6, hsP7, hsP8⟩ := hsP
  refine x_ofW (by decide) rfl (fun p e s m args below meth c Q hQ htab hx hb hr hlk hml hown hts hB hG hK hS hXS ls hl => ?_)
  have hl : lv_has ls 4 [(0, .ref (a 0)), (1, .int (nI j)), (2, .int (nI i)), (3, .int (b2i P))] := hl
  have hown : s.vm.findClass RX = some m.cls := hown
  refine lv_aload_n hx hb dX_join_0 rfl (lv_at hl 0 rfl) ?_
  refine lv_iload_n hx hb dX_join_1 rfl (lv_at hl 1 rfl) ?_
  refine g_VvR (i := 0) (As := [.int (nI j)]) (rest := []) (kX_requirePart hA hsX0 ⟨hsP1, hsP2, hsP3, hsP4, hsP5, hsP6, hsP7, hsP8⟩ j (by omega) (by omega)) calX_requirePart cvX_requirePart mlX_52 hx hb hml hown hts hB hG hK hS (by decide) hsX0 rfl ⟨by decide, by decide⟩ rfl hl.1 rfl (Nat.le_of_ble_eq_true rfl) dX_join_2 ⟨by decide, by decide⟩ (fun H locs hG hS => ?_)
  refine lv_aload_n hx hb dX_join_5 rfl (lv_at hl 0 rfl) ?_
  refine lv_iload_n hx hb dX_join_6 rfl (lv_at hl 2 rfl) ?_
  refine g_VvR (i := 0) (As := [.int (nI i)]) (rest := []) (kX_requirePart hA hsX0 ⟨hsP1, hsP2, hsP3, hsP4, hsP5, hsP6, hsP7, hsP8⟩ i (by omega) (by omega)) calX_requirePart cvX_requirePart mlX_52 hx hb hml hown hts hB hG hK hS (by decide) hsX0 rfl ⟨by decide, by decide⟩ rfl hl.1 rfl (Nat.le_of_ble_eq_true rfl) dX_join_7 ⟨by decide, by decide⟩ (fun H locs hG hS => ?_)
  refine lv_iload_n hx hb dX_join_10 rfl (lv_at hl 1 rfl) ?_
  refine lv_iload_n hx hb dX_join_11 rfl (lv_at hl 2 rfl) ?_
  refine ln_icmp_ne (x := j) (y := i) (tgt := 25) hx hb dX_join_12 (by decide) (by omega) (by omega) (fun c1 => ?_) (fun c1 => ?_)
  · exact absurd hji c1
  · exact x_throw hQ hl9 xok_eIOB (show ((91 : Nat), "a part is not joined to itself") ∈ xStr by decide +kernel) hx hb hml hown hts hG hK hS hXS hlk htab hl.1 dX_join_15 dX_join_18 dX_join_19 dX_join_21 dX_join_24 (by decide) (by decide) (by decide) (by decide) (by decide) (by decide)

abbrev rmX_join_e : Room := { frames := 7, cells := 1, slots := 6, locals := 103 }
set_option maxRecDepth 100000 in
set_option maxHeartbeats 4000000 in
theorem kX_join_e {l : Launch} (hl9 : l.stackTraces = false) {D : va_G} {k : ClassId × ClassId × ClassId} {a : Nat → Nat} {B0 : Nat} {w : Nat → va_E} (hA : gA B0 a) {n : Nat} {up : Nat → Int64} {lo : Nat → Int64} {fa : Nat → Int32} {we : Nat → Int32} {ti : Nat → Int32} {ri : Nat → Int32} {jo : Nat → Int32} (hsX : sX k a w ) (hsP : sP k a w n up lo fa we ti ri jo) (j : Nat) (i : Nat) (P : Prop) (hj : j < n) (hn : n ≤ 12) (hi : i < n) (hji : ¬ j = i) (hjo : ∀ z, z < 144 → narrow .boolean (.int (jo z)) = .int (jo z)) (he : jo (j * 12 + i) = b2i P) : xMet l yX_join cX_join 4 none rmX_join_e D k a B0 w [.ref (a 0), .int (nI j), .int (nI i), .int (b2i P)] eISE := by
  have hsX0 := hsX
  obtain ⟨hsP1, hsP2, hsP3, hsP4, hsP5, hsP6, hsP7, hsP8⟩ := hsP
  refine x_ofW (by decide) rfl (fun p e s m args below meth c Q hQ htab hx hb hr hlk hml hown hts hB hG hK hS hXS ls hl => ?_)
  have hl : lv_has ls 4 [(0, .ref (a 0)), (1, .int (nI j)), (2, .int (nI i)), (3, .int (b2i P))] := hl
  have hown : s.vm.findClass RX = some m.cls := hown
  refine lv_aload_n hx hb dX_join_0 rfl (lv_at hl 0 rfl) ?_
  refine lv_iload_n hx hb dX_join_1 rfl (lv_at hl 1 rfl) ?_
  refine g_VvR (i := 0) (As := [.int (nI j)]) (rest := []) (kX_requirePart hA hsX0 ⟨hsP1, hsP2, hsP3, hsP4, hsP5, hsP6, hsP7, hsP8⟩ j (by omega) (by omega)) calX_requirePart cvX_requirePart mlX_52 hx hb hml hown hts hB hG hK hS (by decide) hsX0 rfl ⟨by decide, by decide⟩ rfl hl.1 rfl (Nat.le_of_ble_eq_true rfl) dX_join_2 ⟨by decide, by decide⟩ (fun H locs hG hS => ?_)
  refine lv_aload_n hx hb dX_join_5 rfl (lv_at hl 0 rfl) ?_
  refine lv_iload_n hx hb dX_join_6 rfl (lv_at hl 2 rfl) ?_
  refine g_VvR (i := 0) (As := [.int (nI i)]) (rest := []) (kX_requirePart hA hsX0 ⟨hsP1, hsP2, hsP3, hsP4, hsP5, hsP6, hsP7, hsP8⟩ i (by omega) (by omega)) calX_requirePart cvX_requirePart mlX_52 hx hb hml hown hts hB hG hK hS (by decide) hsX0 rfl ⟨by decide, by decide⟩ rfl hl.1 rfl (Nat.le_of_ble_eq_true rfl) dX_join_7 ⟨by decide, by decide⟩ (fun H locs hG hS => ?_)
  refine lv_iload_n hx hb dX_join_10 rfl (lv_at hl 1 rfl) ?_
  refine lv_iload_n hx hb dX_join_11 rfl (lv_at hl 2 rfl) ?_
  refine ln_icmp_ne (x := j) (y := i) (tgt := 25) hx hb dX_join_12 (by decide) (by omega) (by omega) (fun c1 => ?_) (fun c1 => ?_)
  · refine lv_aload_n hx hb dX_join_25 rfl (lv_at hl 0 rfl) ?_
    refine g_get hx hb hts inX hown hK hG 0 (by decide) hsX0 rfl 0 (by decide) lkX_10 rfl dX_join_26 ?_
    refine lv_iload_n hx hb dX_join_29 rfl (lv_at hl 1 rfl) ?_
    refine lv_iload_n hx hb dX_join_30 rfl (lv_at hl 2 rfl) ?_
    refine g_ViR (i := 1) (As := [.int (nI j), .int (nI i)]) (rest := []) (kP_areJoined hA ⟨hsP1, hsP2, hsP3, hsP4, hsP5, hsP6, hsP7, hsP8⟩ j i (by omega) (by omega) (hjo _ (by omega))) calP_areJoined cvP_areJoined mlX_93 hx hb hml hown hts hB hG hK hS (by decide) hsP1 rfl ⟨by decide, by decide⟩ rfl hl.1 rfl (Nat.le_of_ble_eq_true rfl) dX_join_31 ⟨by decide, by decide⟩ (fun H locs hG hS => ?_)
    refine lv_iload_n hx hb dX_join_34 rfl (lv_at hl 3 rfl) ?_
    refine lv_icmp_ne (tgt := 48) hx hb dX_join_35 (by decide) (fun c2 => ?_) (fun c2 => ?_)
    · exact absurd he c2
    · exact x_throw hQ hl9 xok_eISE (show ((98 : Nat), "the parts are so already") ∈ xStr by decide +kernel) hx hb hml hown hts hG hK hS hXS hlk htab hl.1 dX_join_38 dX_join_41 dX_join_42 dX_join_44 dX_join_47 (by decide) (by decide) (by decide) (by decide) (by decide) (by decide)
  · exact absurd c1 hji

abbrev rmX_order : Room := { frames := 4, cells := 0, slots := 0, locals := 91 }
set_option maxRecDepth 100000 in
set_option maxHeartbeats 4000000 in
theorem kX_order {l : Launch} {D : va_G} {k : ClassId × ClassId × ClassId} {a : Nat → Nat} {B0 : Nat} {w : Nat → va_E} (hA : gA B0 a) {n : Nat} {up : Nat → Int64} {lo : Nat → Int64} {fa : Nat → Int32} {we : Nat → Int32} {ti : Nat → Int32} {ri : Nat → Int32} {jo : Nat → Int32} (hsX : sX k a w ) (hsP : sP k a w n up lo fa we ti ri jo) (q : Int32) (hq : ¬ q < 0) (hn : n ≤ 12) : Met l yX_order (tbw yX_order cX_order 3 (some .int)) rmX_order (gPc D k a B0 w [.ref (a 0), .int q]) (va_Qi (roP (fstF (rOrdP up lo n q) n 0) w) (gB D k a) (gF B0)) 0 0 (gF B0) := by
  have hsX0 := hsX
  obtain ⟨hsP1, hsP2, hsP3, hsP4, hsP5, hsP6, hsP7, hsP8⟩ := hsP
  refine g_ofW (by decide) rfl (fun p e s m args below meth c Q hQ hx hb hr hlk hml hown hts hB hG hK hS ls hl => ?_)
  have hl : lv_has ls 3 [(0, .ref (a 0)), (1, .int q)] := hl
  have hown : s.vm.findClass RX = some m.cls := hown
  refine lv_iload_n hx hb dX_order_0 rfl (lv_at hl 1 rfl) ?_
  refine g_SvR (As := [.int q]) (rest := []) (kX_requireNotBelowZero hA q (by assumption)) calX_requireNotBelowZero cvX_requireNotBelowZero mlX_105 hx hb hml hown hts hB hG hK hS ⟨by decide, by decide⟩ rfl hl.1 rfl (Nat.le_of_ble_eq_true rfl) dX_order_1 ⟨by decide, by decide⟩ (fun H locs hG hS => ?_)
  refine lv_iconst (v := 0) hx hb dX_order_4 (by decide) ?_
  refine lv_istore_n (lv' := [(2, .int 0), (0, .ref (a 0)), (1, .int q)]) hx hb dX_order_5 rfl hl (by decide) rfl (fun ls hl => ?_)
  have loop6 : ∀ (k9 : Nat) (i : Nat) (hi : i + k9 = n) (hres : fstF (rOrdP up lo n q) k9 i = fstF (rOrdP up lo n q) n 0) (H : Heap) (locs : List Loc) (ls : Array Slot), gW D a w H → va_S (gF B0) s.heap H locs → lv_has ls 3 [(0, .ref (a 0)), (1, .int q), (2, .int (nI i))] → W p l e rmX_order s m args below meth c H locs 0 0 Q (F0 m 6 ls []) := by
    intro k9
    induction k9 using Nat.strongRecOn with
    | _ k9 ih6 =>
      intro i hi hres H locs ls hG hS hl
      refine lv_iload_n hx hb dX_order_6 rfl (lv_at hl 2 rfl) ?_
      refine lv_aload_n hx hb dX_order_7 rfl (lv_at hl 0 rfl) ?_
      refine g_get hx hb hts inX hown hK hG 0 (by decide) hsX0 rfl 0 (by decide) lkX_10 rfl dX_order_8 ?_
      refine g_ViR (i := 1) (As := []) (rest := [.int (nI i)]) (kP_count hA ⟨hsP1, hsP2, hsP3, hsP4, hsP5, hsP6, hsP7, hsP8⟩) calP_count cvP_count mlX_108 hx hb hml hown hts hB hG hK hS (by decide) hsP1 rfl ⟨by decide, by decide⟩ rfl hl.1 rfl (Nat.le_of_ble_eq_true rfl) dX_order_11 ⟨by decide, by decide⟩ (fun H locs hG hS => ?_)
      refine ln_icmp_ge (x := i) (y := n) (tgt := 48) hx hb dX_order_14 (by decide) (by omega) (by omega) (fun c1 => ?_) (fun c1 => ?_)
      · obtain rfl : k9 = 0 := by omega
        refine lv_iconst (v := (-1)) hx hb dX_order_48 (by decide) ?_
        exact g_iret hQ hx hb hr hlk hG hK hS (by decide) (by decide) ⟨by exact hres, rfl⟩ dX_order_49
      · obtain ⟨k8, rfl⟩ : ∃ z, k9 = z + 1 := ⟨k9 - 1, by omega⟩
        refine lv_aload_n hx hb dX_order_17 rfl (lv_at hl 0 rfl) ?_
        refine g_get hx hb hts inX hown hK hG 0 (by decide) hsX0 rfl 0 (by decide) lkX_10 rfl dX_order_18 ?_
        refine lv_iload_n hx hb dX_order_21 rfl (lv_at hl 2 rfl) ?_
        refine g_ViR (i := 1) (As := [.int (nI i)]) (rest := []) (kP_isTold hA ⟨hsP1, hsP2, hsP3, hsP4, hsP5, hsP6, hsP7, hsP8⟩ i (by omega)) calP_isTold cvP_isTold mlX_112 hx hb hml hown hts hB hG hK hS (by decide) hsP1 rfl ⟨by decide, by decide⟩ rfl hl.1 rfl (Nat.le_of_ble_eq_true rfl) dX_order_22 ⟨by decide, by decide⟩ (fun H locs hG hS => ?_)
        refine lb_if_eq (tgt := 42) hx hb dX_order_25 (by decide) (fun c2 => ?_) (fun c2 => ?_)
        · refine lv_iinc (v := (nI (i + 1))) (lv' := [(2, .int (nI (i + 1))), (0, .ref (a 0)), (1, .int q)]) hx hb dX_order_42 hl (k := 2) rfl (nI_add i 1) (by decide) rfl (fun ls hl => ?_)
          refine lv_goto (tgt := 6) hx hb dX_order_45 (by decide) ?_
          exact ih6 k8 (by omega) (i + 1) (by omega) ((fstF_n (fun h9 => by first | exact absurd h9.1 (by assumption) | exact absurd h9.2 (by assumption))).symm.trans hres) _ _ _ hG hS (lv_sub hl [1, 2, 0] rfl)
        · refine lv_aload_n hx hb dX_order_28 rfl (lv_at hl 0 rfl) ?_
          refine g_get hx hb hts inX hown hK hG 0 (by decide) hsX0 rfl 0 (by decide) lkX_10 rfl dX_order_29 ?_
          refine lv_iload_n hx hb dX_order_32 rfl (lv_at hl 2 rfl) ?_
          refine g_ViR (i := 1) (As := [.int (nI i)]) (rest := []) (kP_solidBefore hA ⟨hsP1, hsP2, hsP3, hsP4, hsP5, hsP6, hsP7, hsP8⟩ i (by omega) (by omega)) calP_solidBefore cvP_solidBefore mlX_116 hx hb hml hown hts hB hG hK hS (by decide) hsP1 rfl ⟨by decide, by decide⟩ rfl hl.1 rfl (Nat.le_of_ble_eq_true rfl) dX_order_33 ⟨by decide, by decide⟩ (fun H locs hG hS => ?_)
          refine lv_iload_n hx hb dX_order_36 rfl (lv_at hl 1 rfl) ?_
          refine lv_icmp_ne (tgt := 42) hx hb dX_order_37 (by decide) (fun c3 => ?_) (fun c3 => ?_)
          · refine lv_iinc (v := (nI (i + 1))) (lv' := [(2, .int (nI (i + 1))), (0, .ref (a 0)), (1, .int q)]) hx hb dX_order_42 hl (k := 2) rfl (nI_add i 1) (by decide) rfl (fun ls hl => ?_)
            refine lv_goto (tgt := 6) hx hb dX_order_45 (by decide) ?_
            exact ih6 k8 (by omega) (i + 1) (by omega) ((fstF_n (fun h9 => by first | exact absurd h9.1 (by assumption) | exact absurd h9.2 (by assumption))).symm.trans hres) _ _ _ hG hS (lv_sub hl [1, 2, 0] rfl)
          · refine lv_iload_n hx hb dX_order_40 rfl (lv_at hl 2 rfl) ?_
            exact g_iret hQ hx hb hr hlk hG hK hS (by decide) (by decide) ⟨by exact (fstF_y ⟨by assumption, by assumption⟩).symm.trans hres, rfl⟩ dX_order_41
  exact loop6 n 0 (by omega) rfl _ _ _ hG hS (lv_sub hl [1, 2, 0] rfl)

abbrev rmX_order_z : Room := { frames := 7, cells := 1, slots := 6, locals := 102 }
set_option maxRecDepth 100000 in
set_option maxHeartbeats 4000000 in
theorem kX_order_z {l : Launch} (hl9 : l.stackTraces = false) {D : va_G} {k : ClassId × ClassId × ClassId} {a : Nat → Nat} {B0 : Nat} {w : Nat → va_E} (hA : gA B0 a) {n : Nat} {up : Nat → Int64} {lo : Nat → Int64} {fa : Nat → Int32} {we : Nat → Int32} {ti : Nat → Int32} {ri : Nat → Int32} {jo : Nat → Int32} (hsX : sX k a w ) (hsP : sP k a w n up lo fa we ti ri jo) (q : Int32) (hq : q < 0) : xMet l yX_order cX_order 3 (some .int) rmX_order_z D k a B0 w [.ref (a 0), .int q] eIOB := by
  have hsX0 := hsX
  obtain ⟨hsP1, hsP2, hsP3, hsP4, hsP5, hsP6, hsP7, hsP8⟩ := hsP
  refine x_ofW (by decide) rfl (fun p e s m args below meth c Q hQ htab hx hb hr hlk hml hown hts hB hG hK hS hXS ls hl => ?_)
  have hl : lv_has ls 3 [(0, .ref (a 0)), (1, .int q)] := hl
  have hown : s.vm.findClass RX = some m.cls := hown
  refine lv_iload_n hx hb dX_order_0 rfl (lv_at hl 1 rfl) ?_
  exact x_SB (As := [.int q]) (rest := []) hQ htab hlk (kX_requireNotBelowZero_b hl9 hA q (by assumption)) calX_requireNotBelowZero cvX_requireNotBelowZero mlX_105 hx hb hml hown hts hB hG hK hS hXS ⟨by decide, by decide⟩ rfl hl.1 rfl (Nat.le_of_ble_eq_true rfl) dX_order_1 ⟨by decide, by decide⟩ (by decide) (by decide)

abbrev rmX_unfed : Room := { frames := 4, cells := 0, slots := 0, locals := 90 }
set_option maxRecDepth 100000 in
set_option maxHeartbeats 4000000 in
theorem kX_unfed {l : Launch} {D : va_G} {k : ClassId × ClassId × ClassId} {a : Nat → Nat} {B0 : Nat} {w : Nat → va_E} (hA : gA B0 a) {n : Nat} {up : Nat → Int64} {lo : Nat → Int64} {fa : Nat → Int32} {we : Nat → Int32} {ti : Nat → Int32} {ri : Nat → Int32} {jo : Nat → Int32} (hsX : sX k a w ) (hsP : sP k a w n up lo fa we ti ri jo) (q : Int32) (hq : ¬ q < 0) (hn : n ≤ 12) (hjo : ∀ z, z < 144 → narrow .boolean (.int (jo z)) = .int (jo z)) : Met l yX_unfed (tbw yX_unfed cX_unfed 4 (some .int)) rmX_unfed (gPc D k a B0 w [.ref (a 0), .int q]) (va_Qi (roP (unF (rFeed up lo ri jo n) q n 0 0) w) (gB D k a) (gF B0)) 0 0 (gF B0) := by
  have hsX0 := hsX
  obtain ⟨hsP1, hsP2, hsP3, hsP4, hsP5, hsP6, hsP7, hsP8⟩ := hsP
  refine g_ofW (by decide) rfl (fun p e s m args below meth c Q hQ hx hb hr hlk hml hown hts hB hG hK hS ls hl => ?_)
  have hl : lv_has ls 4 [(0, .ref (a 0)), (1, .int q)] := hl
  have hown : s.vm.findClass RX = some m.cls := hown
  refine lv_iload_n hx hb dX_unfed_0 rfl (lv_at hl 1 rfl) ?_
  refine g_SvR (As := [.int q]) (rest := []) (kX_requireNotBelowZero hA q (by assumption)) calX_requireNotBelowZero cvX_requireNotBelowZero mlX_105 hx hb hml hown hts hB hG hK hS ⟨by decide, by decide⟩ rfl hl.1 rfl (Nat.le_of_ble_eq_true rfl) dX_unfed_1 ⟨by decide, by decide⟩ (fun H locs hG hS => ?_)
  refine lv_iconst (v := 0) hx hb dX_unfed_4 (by decide) ?_
  refine lv_istore_n (lv' := [(2, .int 0), (0, .ref (a 0)), (1, .int q)]) hx hb dX_unfed_5 rfl hl (by decide) rfl (fun ls hl => ?_)
  refine lv_iconst (v := 0) hx hb dX_unfed_6 (by decide) ?_
  refine lv_istore_n (lv' := [(3, .int 0), (2, .int 0), (0, .ref (a 0)), (1, .int q)]) hx hb dX_unfed_7 rfl hl (by decide) rfl (fun ls hl => ?_)
  have loop8 : ∀ (k9 : Nat) (i : Nat) (b : Nat) (hi : i + k9 = n) (hres : unF (rFeed up lo ri jo n) q k9 i b = unF (rFeed up lo ri jo n) q n 0 0) (H : Heap) (locs : List Loc) (ls : Array Slot), gW D a w H → va_S (gF B0) s.heap H locs → lv_has ls 4 [(0, .ref (a 0)), (1, .int q), (2, .int (nI b)), (3, .int (nI i))] → W p l e rmX_unfed s m args below meth c H locs 0 0 Q (F0 m 8 ls []) := by
    intro k9
    induction k9 using Nat.strongRecOn with
    | _ k9 ih8 =>
      intro i b hi hres H locs ls hG hS hl
      refine lv_iload_n hx hb dX_unfed_8 rfl (lv_at hl 3 rfl) ?_
      refine lv_aload_n hx hb dX_unfed_9 rfl (lv_at hl 0 rfl) ?_
      refine g_get hx hb hts inX hown hK hG 0 (by decide) hsX0 rfl 0 (by decide) lkX_10 rfl dX_unfed_10 ?_
      refine g_ViR (i := 1) (As := []) (rest := [.int (nI i)]) (kP_count hA ⟨hsP1, hsP2, hsP3, hsP4, hsP5, hsP6, hsP7, hsP8⟩) calP_count cvP_count mlX_108 hx hb hml hown hts hB hG hK hS (by decide) hsP1 rfl ⟨by decide, by decide⟩ rfl hl.1 rfl (Nat.le_of_ble_eq_true rfl) dX_unfed_13 ⟨by decide, by decide⟩ (fun H locs hG hS => ?_)
      refine ln_icmp_ge (x := i) (y := n) (tgt := 44) hx hb dX_unfed_16 (by decide) (by omega) (by omega) (fun c1 => ?_) (fun c1 => ?_)
      · obtain rfl : k9 = 0 := by omega
        refine lv_iconst (v := (-1)) hx hb dX_unfed_44 (by decide) ?_
        exact g_iret hQ hx hb hr hlk hG hK hS (by decide) (by decide) ⟨by exact hres, rfl⟩ dX_unfed_45
      · obtain ⟨k8, rfl⟩ : ∃ z, k9 = z + 1 := ⟨k9 - 1, by omega⟩
        refine lv_aload_n hx hb dX_unfed_19 rfl (lv_at hl 0 rfl) ?_
        refine lv_iload_n hx hb dX_unfed_20 rfl (lv_at hl 3 rfl) ?_
        refine g_ViR (i := 0) (As := [.int (nI i)]) (rest := []) (kX_whatFeeds hA hsX0 ⟨hsP1, hsP2, hsP3, hsP4, hsP5, hsP6, hsP7, hsP8⟩ i (by omega) (by omega) hjo) calX_whatFeeds cvX_whatFeeds mlX_147 hx hb hml hown hts hB hG hK hS (by decide) hsX0 rfl ⟨by decide, by decide⟩ rfl hl.1 rfl (Nat.le_of_ble_eq_true rfl) dX_unfed_21 ⟨by decide, by decide⟩ (fun H locs hG hS => ?_)
        refine lv_iconst (v := (-1)) hx hb dX_unfed_24 (by decide) ?_
        refine lv_icmp_ne (tgt := 38) hx hb dX_unfed_25 (by decide) (fun c2 => ?_) (fun c2 => ?_)
        · refine lv_iinc (v := (nI (i + 1))) (lv' := [(3, .int (nI (i + 1))), (0, .ref (a 0)), (1, .int q), (2, .int (nI b))]) hx hb dX_unfed_38 hl (k := 3) rfl (nI_add i 1) (by decide) rfl (fun ls hl => ?_)
          refine lv_goto (tgt := 8) hx hb dX_unfed_41 (by decide) ?_
          exact ih8 k8 (by omega) (i + 1) b (by omega) (by first | exact (unF_n (by assumption)).symm.trans hres | exact (unF_s (by assumption) (by assumption)).symm.trans hres) _ _ _ hG hS (lv_sub hl [1, 2, 3, 0] rfl)
        · refine lv_iload_n hx hb dX_unfed_28 rfl (lv_at hl 2 rfl) ?_
          refine lv_iload_n hx hb dX_unfed_29 rfl (lv_at hl 1 rfl) ?_
          refine lv_icmp_ne (tgt := 35) hx hb dX_unfed_30 (by decide) (fun c3 => ?_) (fun c3 => ?_)
          · refine lv_iinc (v := (nI (b + 1))) (lv' := [(2, .int (nI (b + 1))), (0, .ref (a 0)), (1, .int q), (3, .int (nI i))]) hx hb dX_unfed_35 hl (k := 2) rfl (nI_add b 1) (by decide) rfl (fun ls hl => ?_)
            refine lv_iinc (v := (nI (i + 1))) (lv' := [(3, .int (nI (i + 1))), (2, .int (nI (b + 1))), (0, .ref (a 0)), (1, .int q)]) hx hb dX_unfed_38 hl (k := 3) rfl (nI_add i 1) (by decide) rfl (fun ls hl => ?_)
            refine lv_goto (tgt := 8) hx hb dX_unfed_41 (by decide) ?_
            exact ih8 k8 (by omega) (i + 1) (b + 1) (by omega) (by first | exact (unF_n (by assumption)).symm.trans hres | exact (unF_s (by assumption) (by assumption)).symm.trans hres) _ _ _ hG hS (lv_sub hl [2, 3, 1, 0] rfl)
          · refine lv_iload_n hx hb dX_unfed_33 rfl (lv_at hl 3 rfl) ?_
            exact g_iret hQ hx hb hr hlk hG hK hS (by decide) (by decide) ⟨by exact (unF_y (by assumption) (by assumption)).symm.trans hres, rfl⟩ dX_unfed_34
  exact loop8 n 0 0 (by omega) rfl _ _ _ hG hS (lv_sub hl [2, 3, 1, 0] rfl)

abbrev rmX_unfed_z : Room := { frames := 7, cells := 1, slots := 6, locals := 102 }
set_option maxRecDepth 100000 in
set_option maxHeartbeats 4000000 in
theorem kX_unfed_z {l : Launch} (hl9 : l.stackTraces = false) {D : va_G} {k : ClassId × ClassId × ClassId} {a : Nat → Nat} {B0 : Nat} {w : Nat → va_E} (hA : gA B0 a) {n : Nat} {up : Nat → Int64} {lo : Nat → Int64} {fa : Nat → Int32} {we : Nat → Int32} {ti : Nat → Int32} {ri : Nat → Int32} {jo : Nat → Int32} (hsX : sX k a w ) (hsP : sP k a w n up lo fa we ti ri jo) (q : Int32) (hq : q < 0) : xMet l yX_unfed cX_unfed 4 (some .int) rmX_unfed_z D k a B0 w [.ref (a 0), .int q] eIOB := by
  have hsX0 := hsX
  obtain ⟨hsP1, hsP2, hsP3, hsP4, hsP5, hsP6, hsP7, hsP8⟩ := hsP
  refine x_ofW (by decide) rfl (fun p e s m args below meth c Q hQ htab hx hb hr hlk hml hown hts hB hG hK hS hXS ls hl => ?_)
  have hl : lv_has ls 4 [(0, .ref (a 0)), (1, .int q)] := hl
  have hown : s.vm.findClass RX = some m.cls := hown
  refine lv_iload_n hx hb dX_unfed_0 rfl (lv_at hl 1 rfl) ?_
  exact x_SB (As := [.int q]) (rest := []) hQ htab hlk (kX_requireNotBelowZero_b hl9 hA q (by assumption)) calX_requireNotBelowZero cvX_requireNotBelowZero mlX_105 hx hb hml hown hts hB hG hK hS hXS ⟨by decide, by decide⟩ rfl hl.1 rfl (Nat.le_of_ble_eq_true rfl) dX_unfed_1 ⟨by decide, by decide⟩ (by decide) (by decide)

abbrev rmX_feeder : Room := { frames := 4, cells := 0, slots := 0, locals := 90 }
set_option maxRecDepth 100000 in
set_option maxHeartbeats 4000000 in
theorem kX_feeder {l : Launch} {D : va_G} {k : ClassId × ClassId × ClassId} {a : Nat → Nat} {B0 : Nat} {w : Nat → va_E} (hA : gA B0 a) {n : Nat} {up : Nat → Int64} {lo : Nat → Int64} {fa : Nat → Int32} {we : Nat → Int32} {ti : Nat → Int32} {ri : Nat → Int32} {jo : Nat → Int32} (hsX : sX k a w ) (hsP : sP k a w n up lo fa we ti ri jo) (j : Nat) (hj : j < n) (hn : n ≤ 12) (hjo : ∀ z, z < 144 → narrow .boolean (.int (jo z)) = .int (jo z)) : Met l yX_feeder (tbw yX_feeder cX_feeder 2 (some .int)) rmX_feeder (gPc D k a B0 w [.ref (a 0), .int (nI j)]) (va_Qi (roP (rFeed up lo ri jo n j) w) (gB D k a) (gF B0)) 0 0 (gF B0) := by
  have hsX0 := hsX
  obtain ⟨hsP1, hsP2, hsP3, hsP4, hsP5, hsP6, hsP7, hsP8⟩ := hsP
  refine g_ofW (by decide) rfl (fun p e s m args below meth c Q hQ hx hb hr hlk hml hown hts hB hG hK hS ls hl => ?_)
  have hl : lv_has ls 2 [(0, .ref (a 0)), (1, .int (nI j))] := hl
  have hown : s.vm.findClass RX = some m.cls := hown
  refine lv_aload_n hx hb dX_feeder_0 rfl (lv_at hl 0 rfl) ?_
  refine lv_iload_n hx hb dX_feeder_1 rfl (lv_at hl 1 rfl) ?_
  refine g_VvR (i := 0) (As := [.int (nI j)]) (rest := []) (kX_requirePart hA hsX0 ⟨hsP1, hsP2, hsP3, hsP4, hsP5, hsP6, hsP7, hsP8⟩ j (by omega) (by omega)) calX_requirePart cvX_requirePart mlX_52 hx hb hml hown hts hB hG hK hS (by decide) hsX0 rfl ⟨by decide, by decide⟩ rfl hl.1 rfl (Nat.le_of_ble_eq_true rfl) dX_feeder_2 ⟨by decide, by decide⟩ (fun H locs hG hS => ?_)
  refine lv_aload_n hx hb dX_feeder_5 rfl (lv_at hl 0 rfl) ?_
  refine lv_iload_n hx hb dX_feeder_6 rfl (lv_at hl 1 rfl) ?_
  refine g_ViR (i := 0) (As := [.int (nI j)]) (rest := []) (kX_whatFeeds hA hsX0 ⟨hsP1, hsP2, hsP3, hsP4, hsP5, hsP6, hsP7, hsP8⟩ j (by omega) (by omega) hjo) calX_whatFeeds cvX_whatFeeds mlX_147 hx hb hml hown hts hB hG hK hS (by decide) hsX0 rfl ⟨by decide, by decide⟩ rfl hl.1 rfl (Nat.le_of_ble_eq_true rfl) dX_feeder_7 ⟨by decide, by decide⟩ (fun H locs hG hS => ?_)
  exact g_iret hQ hx hb hr hlk hG hK hS (by decide) (by decide) ⟨by first | rfl | omega | (simp_all; done) | grind, rfl⟩ dX_feeder_10

abbrev rmX_feeder_p : Room := { frames := 7, cells := 1, slots := 6, locals := 103 }
set_option maxRecDepth 100000 in
set_option maxHeartbeats 4000000 in
theorem kX_feeder_p {l : Launch} (hl9 : l.stackTraces = false) {D : va_G} {k : ClassId × ClassId × ClassId} {a : Nat → Nat} {B0 : Nat} {w : Nat → va_E} (hA : gA B0 a) {n : Nat} {up : Nat → Int64} {lo : Nat → Int64} {fa : Nat → Int32} {we : Nat → Int32} {ti : Nat → Int32} {ri : Nat → Int32} {jo : Nat → Int32} (hsX : sX k a w ) (hsP : sP k a w n up lo fa we ti ri jo) (q : Int32) (hq : ¬ (¬ q < 0 ∧ ¬ nI n ≤ q)) : xMet l yX_feeder cX_feeder 2 (some .int) rmX_feeder_p D k a B0 w [.ref (a 0), .int q] eIOB := by
  have hsX0 := hsX
  obtain ⟨hsP1, hsP2, hsP3, hsP4, hsP5, hsP6, hsP7, hsP8⟩ := hsP
  refine x_ofW (by decide) rfl (fun p e s m args below meth c Q hQ htab hx hb hr hlk hml hown hts hB hG hK hS hXS ls hl => ?_)
  have hl : lv_has ls 2 [(0, .ref (a 0)), (1, .int q)] := hl
  have hown : s.vm.findClass RX = some m.cls := hown
  refine lv_aload_n hx hb dX_feeder_0 rfl (lv_at hl 0 rfl) ?_
  refine lv_iload_n hx hb dX_feeder_1 rfl (lv_at hl 1 rfl) ?_
  exact x_VB (i := 0) (As := [.int q]) (rest := []) hQ htab hlk (kX_requirePart_b hl9 hA hsX0 ⟨hsP1, hsP2, hsP3, hsP4, hsP5, hsP6, hsP7, hsP8⟩ q (by assumption)) calX_requirePart cvX_requirePart mlX_52 hx hb hml hown hts hB hG hK hS hXS (by decide) hsX0 rfl ⟨by decide, by decide⟩ rfl hl.1 rfl (Nat.le_of_ble_eq_true rfl) dX_feeder_2 ⟨by decide, by decide⟩ (by decide) (by decide)

abbrev rmX_riserRow : Room := { frames := 1, cells := 0, slots := 0, locals := 22 }
set_option maxRecDepth 100000 in
set_option maxHeartbeats 4000000 in
theorem kX_riserRow {l : Launch} {D : va_G} {k : ClassId × ClassId × ClassId} {a : Nat → Nat} {B0 : Nat} {w : Nat → va_E} (hA : gA B0 a) {nr : Nat} {ru : Nat → Int64} {rl : Nat → Int64} (hsX : sX k a w ) (hsR : sR k a w nr ru rl) (x : Int32) (y : Int32) (hn : nr < 8) (h1 : szR x) (h2 : szR y) : Met l yX_riserRow (tbw yX_riserRow cX_riserRow 3 (some .int)) rmX_riserRow (gPc D k a B0 w [.ref (a 0), .int x, .int y]) (va_Qi (fun r w1 => r = (nI (nr + 1)) ∧ (sR k a w1 (nr + 1) (vp_updL ru nr (x.toInt64 * y.toInt64)) (vp_updL rl nr (4 * y.toInt64 + x.toInt64))) ∧ ∀ z, z < 9 ∨ 11 < z → w1 z = w z) (gB D k a) (gF B0)) 0 0 (gF B0) := by
  have hsX0 := hsX
  obtain ⟨hsR9, hsR10, hsR11⟩ := hsR
  refine g_ofW (by decide) rfl (fun p e s m args below meth c Q hQ hx hb hr hlk hml hown hts hB hG hK hS ls hl => ?_)
  have hl : lv_has ls 3 [(0, .ref (a 0)), (1, .int x), (2, .int y)] := hl
  have hown : s.vm.findClass RX = some m.cls := hown
  have hfr0 : ∀ z, z < 9 ∨ 11 < z → w z = w z := fun _ _ => rfl
  refine lv_aload_n hx hb dX_riserRow_0 rfl (lv_at hl 0 rfl) ?_
  refine g_get hx hb hts inX hown hK hG 0 (by decide) hsX0 rfl 1 (by decide) lkX_19 rfl dX_riserRow_1 ?_
  refine g_ViR (i := 9) (As := []) (rest := []) (kR_isFull hA ⟨hsR9, hsR10, hsR11⟩ (by omega)) calR_isFull cvR_isFull mlX_120 hx hb hml hown hts hB hG hK hS (by decide) hsR9 rfl ⟨by decide, by decide⟩ rfl hl.1 rfl (Nat.le_of_ble_eq_true rfl) dX_riserRow_4 ⟨by decide, by decide⟩ (fun H locs hG hS => ?_)
  refine lb_if_eq (tgt := 20) hx hb dX_riserRow_7 (by decide) (fun c1 => ?_) (fun c1 => ?_)
  · refine lv_iload_n hx hb dX_riserRow_20 rfl (lv_at hl 1 rfl) ?_
    refine g_SvR (As := [.int x]) (rest := []) (kX_requireSize hA x (by assumption)) calX_requireSize cvX_requireSize mlX_40 hx hb hml hown hts hB hG hK hS ⟨by decide, by decide⟩ rfl hl.1 rfl (Nat.le_of_ble_eq_true rfl) dX_riserRow_21 ⟨by decide, by decide⟩ (fun H locs hG hS => ?_)
    refine lv_iload_n hx hb dX_riserRow_24 rfl (lv_at hl 2 rfl) ?_
    refine g_SvR (As := [.int y]) (rest := []) (kX_requireSize hA y (by assumption)) calX_requireSize cvX_requireSize mlX_40 hx hb hml hown hts hB hG hK hS ⟨by decide, by decide⟩ rfl hl.1 rfl (Nat.le_of_ble_eq_true rfl) dX_riserRow_25 ⟨by decide, by decide⟩ (fun H locs hG hS => ?_)
    refine lv_aload_n hx hb dX_riserRow_28 rfl (lv_at hl 0 rfl) ?_
    refine g_get hx hb hts inX hown hK hG 0 (by decide) hsX0 rfl 1 (by decide) lkX_19 rfl dX_riserRow_29 ?_
    refine lv_iload_n hx hb dX_riserRow_32 rfl (lv_at hl 1 rfl) ?_
    refine lv_iload_n hx hb dX_riserRow_33 rfl (lv_at hl 2 rfl) ?_
    refine g_Vi (i := 9) (As := [.int x, .int y]) (rest := []) (kR_addRow hA ⟨hsR9, hsR10, hsR11⟩ x y (by omega)) calR_addRow cvR_addRow mlX_126 hx hb hml hown hts hB hG hK hS (by decide) hsR9 rfl ⟨by decide, by decide⟩ rfl hl.1 rfl (Nat.le_of_ble_eq_true rfl) dX_riserRow_34 ⟨by decide, by decide⟩ (fun r2 w3 H locs hp4 hG hS => ?_)
    obtain ⟨er8, ⟨h5, h6, h7⟩, hfr9⟩ := hp4
    have h10 : w3 0 = .inr (0, [.ref (a 1), .ref (a 9), .ref (a 12), .ref (a 15)]) := (hfr9 0 (by omega)).trans hsX0
    have hfr11 : ∀ z, z < 9 ∨ 11 < z → w3 z = w z := fun z hz => (hfr9 z (by omega)).trans (hfr0 z hz)
    rw [er8]
    exact g_iret hQ hx hb hr hlk hG hK hS (by decide) (by decide) ⟨by first | rfl | omega | (simp_all; done) | grind, ⟨h5, h6, h7⟩, hfr11⟩ dX_riserRow_37
  · exfalso
    first | omega | contradiction | (simp_all; done) | grind

abbrev rmX_riserRow_f : Room := { frames := 7, cells := 1, slots := 6, locals := 102 }
set_option maxRecDepth 100000 in
set_option maxHeartbeats 4000000 in
theorem kX_riserRow_f {l : Launch} (hl9 : l.stackTraces = false) {D : va_G} {k : ClassId × ClassId × ClassId} {a : Nat → Nat} {B0 : Nat} {w : Nat → va_E} (hA : gA B0 a) {nr : Nat} {ru : Nat → Int64} {rl : Nat → Int64} (hsX : sX k a w ) (hsR : sR k a w nr ru rl) (x : Int32) (y : Int32) (hn : nr = 8) : xMet l yX_riserRow cX_riserRow 3 (some .int) rmX_riserRow_f D k a B0 w [.ref (a 0), .int x, .int y] eISE := by
  have hsX0 := hsX
  obtain ⟨hsR9, hsR10, hsR11⟩ := hsR
  refine x_ofW (by decide) rfl (fun p e s m args below meth c Q hQ htab hx hb hr hlk hml hown hts hB hG hK hS hXS ls hl => ?_)
  have hl : lv_has ls 3 [(0, .ref (a 0)), (1, .int x), (2, .int y)] := hl
  have hown : s.vm.findClass RX = some m.cls := hown
  refine lv_aload_n hx hb dX_riserRow_0 rfl (lv_at hl 0 rfl) ?_
  refine g_get hx hb hts inX hown hK hG 0 (by decide) hsX0 rfl 1 (by decide) lkX_19 rfl dX_riserRow_1 ?_
  refine g_ViR (i := 9) (As := []) (rest := []) (kR_isFull hA ⟨hsR9, hsR10, hsR11⟩ (by omega)) calR_isFull cvR_isFull mlX_120 hx hb hml hown hts hB hG hK hS (by decide) hsR9 rfl ⟨by decide, by decide⟩ rfl hl.1 rfl (Nat.le_of_ble_eq_true rfl) dX_riserRow_4 ⟨by decide, by decide⟩ (fun H locs hG hS => ?_)
  refine lb_if_eq (tgt := 20) hx hb dX_riserRow_7 (by decide) (fun c1 => ?_) (fun c1 => ?_)
  · exact absurd (by omega) c1
  · exact x_throw hQ hl9 xok_eISE (show ((124 : Nat), "there are 8 riser rows") ∈ xStr by decide +kernel) hx hb hml hown hts hG hK hS hXS hlk htab hl.1 dX_riserRow_10 dX_riserRow_13 dX_riserRow_14 dX_riserRow_16 dX_riserRow_19 (by decide) (by decide) (by decide) (by decide) (by decide) (by decide)

abbrev rmX_riserRow_z : Room := { frames := 7, cells := 1, slots := 6, locals := 102 }
set_option maxRecDepth 100000 in
set_option maxHeartbeats 4000000 in
theorem kX_riserRow_z {l : Launch} (hl9 : l.stackTraces = false) {D : va_G} {k : ClassId × ClassId × ClassId} {a : Nat → Nat} {B0 : Nat} {w : Nat → va_E} (hA : gA B0 a) {nr : Nat} {ru : Nat → Int64} {rl : Nat → Int64} (hsX : sX k a w ) (hsR : sR k a w nr ru rl) (x : Int32) (y : Int32) (hn : nr < 8) (hz : ¬ (szR x ∧ szR y)) : xMet l yX_riserRow cX_riserRow 3 (some .int) rmX_riserRow_z D k a B0 w [.ref (a 0), .int x, .int y] eIAE := by
  have hsX0 := hsX
  obtain ⟨hsR9, hsR10, hsR11⟩ := hsR
  refine x_ofW (by decide) rfl (fun p e s m args below meth c Q hQ htab hx hb hr hlk hml hown hts hB hG hK hS hXS ls hl => ?_)
  have hl : lv_has ls 3 [(0, .ref (a 0)), (1, .int x), (2, .int y)] := hl
  have hown : s.vm.findClass RX = some m.cls := hown
  refine lv_aload_n hx hb dX_riserRow_0 rfl (lv_at hl 0 rfl) ?_
  refine g_get hx hb hts inX hown hK hG 0 (by decide) hsX0 rfl 1 (by decide) lkX_19 rfl dX_riserRow_1 ?_
  refine g_ViR (i := 9) (As := []) (rest := []) (kR_isFull hA ⟨hsR9, hsR10, hsR11⟩ (by omega)) calR_isFull cvR_isFull mlX_120 hx hb hml hown hts hB hG hK hS (by decide) hsR9 rfl ⟨by decide, by decide⟩ rfl hl.1 rfl (Nat.le_of_ble_eq_true rfl) dX_riserRow_4 ⟨by decide, by decide⟩ (fun H locs hG hS => ?_)
  refine lb_if_eq (tgt := 20) hx hb dX_riserRow_7 (by decide) (fun c1 => ?_) (fun c1 => ?_)
  · refine lv_iload_n hx hb dX_riserRow_20 rfl (lv_at hl 1 rfl) ?_
    by_cases hs2 : szR x
    · refine g_SvR (As := [.int x]) (rest := []) (kX_requireSize hA x (by assumption)) calX_requireSize cvX_requireSize mlX_40 hx hb hml hown hts hB hG hK hS ⟨by decide, by decide⟩ rfl hl.1 rfl (Nat.le_of_ble_eq_true rfl) dX_riserRow_21 ⟨by decide, by decide⟩ (fun H locs hG hS => ?_)
      refine lv_iload_n hx hb dX_riserRow_24 rfl (lv_at hl 2 rfl) ?_
      by_cases hs3 : szR y
      · refine g_SvR (As := [.int y]) (rest := []) (kX_requireSize hA y (by assumption)) calX_requireSize cvX_requireSize mlX_40 hx hb hml hown hts hB hG hK hS ⟨by decide, by decide⟩ rfl hl.1 rfl (Nat.le_of_ble_eq_true rfl) dX_riserRow_25 ⟨by decide, by decide⟩ (fun H locs hG hS => ?_)
        exact absurd ⟨by assumption, by assumption⟩ hz
      · exact x_SB (As := [.int y]) (rest := []) hQ htab hlk (kX_requireSize_b hl9 hA y (by assumption)) calX_requireSize cvX_requireSize mlX_40 hx hb hml hown hts hB hG hK hS hXS ⟨by decide, by decide⟩ rfl hl.1 rfl (Nat.le_of_ble_eq_true rfl) dX_riserRow_25 ⟨by decide, by decide⟩ (by decide) (by decide)
    · exact x_SB (As := [.int x]) (rest := []) hQ htab hlk (kX_requireSize_b hl9 hA x (by assumption)) calX_requireSize cvX_requireSize mlX_40 hx hb hml hown hts hB hG hK hS hXS ⟨by decide, by decide⟩ rfl hl.1 rfl (Nat.le_of_ble_eq_true rfl) dX_riserRow_21 ⟨by decide, by decide⟩ (by decide) (by decide)
  · exfalso
    first | omega | contradiction | (simp_all; done) | grind

abbrev rmX_riser : Room := { frames := 2, cells := 0, slots := 0, locals := 42 }
set_option maxRecDepth 100000 in
set_option maxHeartbeats 4000000 in
theorem kX_riser {l : Launch} {D : va_G} {k : ClassId × ClassId × ClassId} {a : Nat → Nat} {B0 : Nat} {w : Nat → va_E} (hA : gA B0 a) {n : Nat} {up : Nat → Int64} {lo : Nat → Int64} {fa : Nat → Int32} {we : Nat → Int32} {ti : Nat → Int32} {ri : Nat → Int32} {jo : Nat → Int32} {nr : Nat} {ru : Nat → Int64} {rl : Nat → Int64} (hsX : sX k a w ) (hsP : sP k a w n up lo fa we ti ri jo) (hsR : sR k a w nr ru rl) (j : Nat) (hj : j < n) (hn : n ≤ 12) (hr8 : nr ≤ 8) (ht : 0 < lo j) (hf : ¬ fstF (rFitP ru rl (up j) (lo j)) nr 0 = -1) : Met l yX_riser (tbw yX_riser cX_riser 3 (some .int)) rmX_riser (gPc D k a B0 w [.ref (a 0), .int (nI j)]) (va_Qi (fun r w1 => r = (fstF (rFitP ru rl (up j) (lo j)) nr 0) ∧ (sP k a w1 n up lo fa we ti (upd ri j (fstF (rFitP ru rl (up j) (lo j)) nr 0)) jo) ∧ ∀ z, z < 1 ∨ 8 < z → w1 z = w z) (gB D k a) (gF B0)) 0 0 (gF B0) := by
  have hsX0 := hsX
  obtain ⟨hsP1, hsP2, hsP3, hsP4, hsP5, hsP6, hsP7, hsP8⟩ := hsP
  obtain ⟨hsR9, hsR10, hsR11⟩ := hsR
  refine g_ofW (by decide) rfl (fun p e s m args below meth c Q hQ hx hb hr hlk hml hown hts hB hG hK hS ls hl => ?_)
  have hl : lv_has ls 3 [(0, .ref (a 0)), (1, .int (nI j))] := hl
  have hown : s.vm.findClass RX = some m.cls := hown
  have hfr0 : ∀ z, z < 1 ∨ 8 < z → w z = w z := fun _ _ => rfl
  refine lv_aload_n hx hb dX_riser_0 rfl (lv_at hl 0 rfl) ?_
  refine lv_iload_n hx hb dX_riser_1 rfl (lv_at hl 1 rfl) ?_
  refine g_VvR (i := 0) (As := [.int (nI j)]) (rest := []) (kX_requirePart hA hsX0 ⟨hsP1, hsP2, hsP3, hsP4, hsP5, hsP6, hsP7, hsP8⟩ j (by omega) (by omega)) calX_requirePart cvX_requirePart mlX_52 hx hb hml hown hts hB hG hK hS (by decide) hsX0 rfl ⟨by decide, by decide⟩ rfl hl.1 rfl (Nat.le_of_ble_eq_true rfl) dX_riser_2 ⟨by decide, by decide⟩ (fun H locs hG hS => ?_)
  refine lv_aload_n hx hb dX_riser_5 rfl (lv_at hl 0 rfl) ?_
  refine lv_iload_n hx hb dX_riser_6 rfl (lv_at hl 1 rfl) ?_
  refine g_VvR (i := 0) (As := [.int (nI j)]) (rest := []) (kX_requireTold hA hsX0 ⟨hsP1, hsP2, hsP3, hsP4, hsP5, hsP6, hsP7, hsP8⟩ j (by omega) (by assumption)) calX_requireTold cvX_requireTold mlX_77 hx hb hml hown hts hB hG hK hS (by decide) hsX0 rfl ⟨by decide, by decide⟩ rfl hl.1 rfl (Nat.le_of_ble_eq_true rfl) dX_riser_7 ⟨by decide, by decide⟩ (fun H locs hG hS => ?_)
  refine lv_aload_n hx hb dX_riser_10 rfl (lv_at hl 0 rfl) ?_
  refine g_get hx hb hts inX hown hK hG 0 (by decide) hsX0 rfl 1 (by decide) lkX_19 rfl dX_riser_11 ?_
  refine lv_aload_n hx hb dX_riser_14 rfl (lv_at hl 0 rfl) ?_
  refine g_get hx hb hts inX hown hK hG 0 (by decide) hsX0 rfl 0 (by decide) lkX_10 rfl dX_riser_15 ?_
  refine lv_iload_n hx hb dX_riser_18 rfl (lv_at hl 1 rfl) ?_
  refine g_VlR (i := 1) (As := [.int (nI j)]) (rest := [.ref (a 9)]) (kP_upper hA ⟨hsP1, hsP2, hsP3, hsP4, hsP5, hsP6, hsP7, hsP8⟩ j (by omega)) calP_upper cvP_upper mlX_80 hx hb hml hown hts hB hG hK hS (by decide) hsP1 rfl ⟨by decide, by decide⟩ rfl hl.1 rfl (Nat.le_of_ble_eq_true rfl) dX_riser_19 ⟨by decide, by decide⟩ (fun H locs hG hS => ?_)
  refine lv_aload_n hx hb dX_riser_22 rfl (lv_at hl 0 rfl) ?_
  refine g_get hx hb hts inX hown hK hG 0 (by decide) hsX0 rfl 0 (by decide) lkX_10 rfl dX_riser_23 ?_
  refine lv_iload_n hx hb dX_riser_26 rfl (lv_at hl 1 rfl) ?_
  refine g_VlR (i := 1) (As := [.int (nI j)]) (rest := [.long (up j), .ref (a 9)]) (kP_lower hA ⟨hsP1, hsP2, hsP3, hsP4, hsP5, hsP6, hsP7, hsP8⟩ j (by omega)) calP_lower cvP_lower mlX_84 hx hb hml hown hts hB hG hK hS (by decide) hsP1 rfl ⟨by decide, by decide⟩ rfl hl.1 rfl (Nat.le_of_ble_eq_true rfl) dX_riser_27 ⟨by decide, by decide⟩ (fun H locs hG hS => ?_)
  refine g_ViR (i := 9) (As := [.long (up j), .long (lo j)]) (rest := []) (kR_firstFor hA ⟨hsR9, hsR10, hsR11⟩ (up j) (lo j) (by omega)) calR_firstFor cvR_firstFor mlX_129 hx hb hml hown hts hB hG hK hS (by decide) hsR9 rfl ⟨by decide, by decide⟩ rfl hl.1 rfl (Nat.le_of_ble_eq_true rfl) dX_riser_30 ⟨by decide, by decide⟩ (fun H locs hG hS => ?_)
  refine lv_istore_n (lv' := [(2, .int (fstF (rFitP ru rl (up j) (lo j)) nr 0)), (0, .ref (a 0)), (1, .int (nI j))]) hx hb dX_riser_33 rfl hl (by decide) rfl (fun ls hl => ?_)
  refine lv_iload_n hx hb dX_riser_34 rfl (lv_at hl 0 rfl) ?_
  refine lv_iconst (v := (-1)) hx hb dX_riser_35 (by decide) ?_
  refine lv_icmp_ne (tgt := 49) hx hb dX_riser_36 (by decide) (fun c1 => ?_) (fun c1 => ?_)
  · refine lv_aload_n hx hb dX_riser_49 rfl (lv_at hl 1 rfl) ?_
    refine g_get hx hb hts inX hown hK hG 0 (by decide) hsX0 rfl 0 (by decide) lkX_10 rfl dX_riser_50 ?_
    refine lv_iload_n hx hb dX_riser_53 rfl (lv_at hl 2 rfl) ?_
    refine lv_iload_n hx hb dX_riser_54 rfl (lv_at hl 0 rfl) ?_
    refine g_Vv (i := 1) (As := [.int (nI j), .int (fstF (rFitP ru rl (up j) (lo j)) nr 0)]) (rest := []) (kP_setRiser hA ⟨hsP1, hsP2, hsP3, hsP4, hsP5, hsP6, hsP7, hsP8⟩ j (fstF (rFitP ru rl (up j) (lo j)) nr 0) (by omega)) calP_setRiser cvP_setRiser mlX_138 hx hb hml hown hts hB hG hK hS (by decide) hsP1 rfl ⟨by decide, by decide⟩ rfl hl.1 rfl (Nat.le_of_ble_eq_true rfl) dX_riser_55 ⟨by decide, by decide⟩ (fun w3 H locs hp4 hG hS => ?_)
    obtain ⟨⟨h5, h6, h7, h8, h9, h10, h11, h12⟩, hfr14⟩ := hp4
    have h15 : w3 0 = .inr (0, [.ref (a 1), .ref (a 9), .ref (a 12), .ref (a 15)]) := (hfr14 0 (by omega)).trans hsX0
    have h16 : w3 9 = .inr (2, [.ref (a 10), .ref (a 11), .int (nI nr)]) := (hfr14 9 (by omega)).trans hsR9
    have h17 : w3 10 = .inl (k.2.1, 8, .inr (.inl ru)) := (hfr14 10 (by omega)).trans hsR10
    have h18 : w3 11 = .inl (k.2.1, 8, .inr (.inl rl)) := (hfr14 11 (by omega)).trans hsR11
    have hfr19 : ∀ z, z < 1 ∨ 8 < z → w3 z = w z := fun z hz => (hfr14 z (by omega)).trans (hfr0 z hz)
    refine lv_iload_n hx hb dX_riser_58 rfl (lv_at hl 0 rfl) ?_
    exact g_iret hQ hx hb hr hlk hG hK hS (by decide) (by decide) ⟨by first | rfl | omega | (simp_all; done) | grind, ⟨h5, h6, h7, h8, h9, h10, h11, h12⟩, hfr19⟩ dX_riser_59
  · exfalso
    first | omega | contradiction | (simp_all; done) | grind

abbrev rmX_riser_p : Room := { frames := 7, cells := 1, slots := 6, locals := 103 }
set_option maxRecDepth 100000 in
set_option maxHeartbeats 4000000 in
theorem kX_riser_p {l : Launch} (hl9 : l.stackTraces = false) {D : va_G} {k : ClassId × ClassId × ClassId} {a : Nat → Nat} {B0 : Nat} {w : Nat → va_E} (hA : gA B0 a) {n : Nat} {up : Nat → Int64} {lo : Nat → Int64} {fa : Nat → Int32} {we : Nat → Int32} {ti : Nat → Int32} {ri : Nat → Int32} {jo : Nat → Int32} {nr : Nat} {ru : Nat → Int64} {rl : Nat → Int64} (hsX : sX k a w ) (hsP : sP k a w n up lo fa we ti ri jo) (hsR : sR k a w nr ru rl) (q : Int32) (hq : ¬ (¬ q < 0 ∧ ¬ nI n ≤ q)) : xMet l yX_riser cX_riser 3 (some .int) rmX_riser_p D k a B0 w [.ref (a 0), .int q] eIOB := by
  have hsX0 := hsX
  obtain ⟨hsP1, hsP2, hsP3, hsP4, hsP5, hsP6, hsP7, hsP8⟩ := hsP
  obtain ⟨hsR9, hsR10, hsR11⟩ := hsR
  refine x_ofW (by decide) rfl (fun p e s m args below meth c Q hQ htab hx hb hr hlk hml hown hts hB hG hK hS hXS ls hl => ?_)
  have hl : lv_has ls 3 [(0, .ref (a 0)), (1, .int q)] := hl
  have hown : s.vm.findClass RX = some m.cls := hown
  refine lv_aload_n hx hb dX_riser_0 rfl (lv_at hl 0 rfl) ?_
  refine lv_iload_n hx hb dX_riser_1 rfl (lv_at hl 1 rfl) ?_
  exact x_VB (i := 0) (As := [.int q]) (rest := []) hQ htab hlk (kX_requirePart_b hl9 hA hsX0 ⟨hsP1, hsP2, hsP3, hsP4, hsP5, hsP6, hsP7, hsP8⟩ q (by assumption)) calX_requirePart cvX_requirePart mlX_52 hx hb hml hown hts hB hG hK hS hXS (by decide) hsX0 rfl ⟨by decide, by decide⟩ rfl hl.1 rfl (Nat.le_of_ble_eq_true rfl) dX_riser_2 ⟨by decide, by decide⟩ (by decide) (by decide)

abbrev rmX_riser_t : Room := { frames := 7, cells := 1, slots := 6, locals := 103 }
set_option maxRecDepth 100000 in
set_option maxHeartbeats 4000000 in
theorem kX_riser_t {l : Launch} (hl9 : l.stackTraces = false) {D : va_G} {k : ClassId × ClassId × ClassId} {a : Nat → Nat} {B0 : Nat} {w : Nat → va_E} (hA : gA B0 a) {n : Nat} {up : Nat → Int64} {lo : Nat → Int64} {fa : Nat → Int32} {we : Nat → Int32} {ti : Nat → Int32} {ri : Nat → Int32} {jo : Nat → Int32} {nr : Nat} {ru : Nat → Int64} {rl : Nat → Int64} (hsX : sX k a w ) (hsP : sP k a w n up lo fa we ti ri jo) (hsR : sR k a w nr ru rl) (j : Nat) (hj : j < n) (hn : n ≤ 12) (ht : ¬ 0 < lo j) : xMet l yX_riser cX_riser 3 (some .int) rmX_riser_t D k a B0 w [.ref (a 0), .int (nI j)] eUOE := by
  have hsX0 := hsX
  obtain ⟨hsP1, hsP2, hsP3, hsP4, hsP5, hsP6, hsP7, hsP8⟩ := hsP
  obtain ⟨hsR9, hsR10, hsR11⟩ := hsR
  refine x_ofW (by decide) rfl (fun p e s m args below meth c Q hQ htab hx hb hr hlk hml hown hts hB hG hK hS hXS ls hl => ?_)
  have hl : lv_has ls 3 [(0, .ref (a 0)), (1, .int (nI j))] := hl
  have hown : s.vm.findClass RX = some m.cls := hown
  refine lv_aload_n hx hb dX_riser_0 rfl (lv_at hl 0 rfl) ?_
  refine lv_iload_n hx hb dX_riser_1 rfl (lv_at hl 1 rfl) ?_
  refine g_VvR (i := 0) (As := [.int (nI j)]) (rest := []) (kX_requirePart hA hsX0 ⟨hsP1, hsP2, hsP3, hsP4, hsP5, hsP6, hsP7, hsP8⟩ j (by omega) (by omega)) calX_requirePart cvX_requirePart mlX_52 hx hb hml hown hts hB hG hK hS (by decide) hsX0 rfl ⟨by decide, by decide⟩ rfl hl.1 rfl (Nat.le_of_ble_eq_true rfl) dX_riser_2 ⟨by decide, by decide⟩ (fun H locs hG hS => ?_)
  refine lv_aload_n hx hb dX_riser_5 rfl (lv_at hl 0 rfl) ?_
  refine lv_iload_n hx hb dX_riser_6 rfl (lv_at hl 1 rfl) ?_
  exact x_VB (i := 0) (As := [.int (nI j)]) (rest := []) hQ htab hlk (kX_requireTold_b hl9 hA hsX0 ⟨hsP1, hsP2, hsP3, hsP4, hsP5, hsP6, hsP7, hsP8⟩ j (by omega) (by assumption)) calX_requireTold cvX_requireTold mlX_77 hx hb hml hown hts hB hG hK hS hXS (by decide) hsX0 rfl ⟨by decide, by decide⟩ rfl hl.1 rfl (Nat.le_of_ble_eq_true rfl) dX_riser_7 ⟨by decide, by decide⟩ (by decide) (by decide)

abbrev rmX_riser_r : Room := { frames := 7, cells := 1, slots := 6, locals := 103 }
set_option maxRecDepth 100000 in
set_option maxHeartbeats 4000000 in
theorem kX_riser_r {l : Launch} (hl9 : l.stackTraces = false) {D : va_G} {k : ClassId × ClassId × ClassId} {a : Nat → Nat} {B0 : Nat} {w : Nat → va_E} (hA : gA B0 a) {n : Nat} {up : Nat → Int64} {lo : Nat → Int64} {fa : Nat → Int32} {we : Nat → Int32} {ti : Nat → Int32} {ri : Nat → Int32} {jo : Nat → Int32} {nr : Nat} {ru : Nat → Int64} {rl : Nat → Int64} (hsX : sX k a w ) (hsP : sP k a w n up lo fa we ti ri jo) (hsR : sR k a w nr ru rl) (j : Nat) (hj : j < n) (hn : n ≤ 12) (hr8 : nr ≤ 8) (ht : 0 < lo j) (hf : fstF (rFitP ru rl (up j) (lo j)) nr 0 = -1) : xMet l yX_riser cX_riser 3 (some .int) rmX_riser_r D k a B0 w [.ref (a 0), .int (nI j)] eUOE := by
  have hsX0 := hsX
  obtain ⟨hsP1, hsP2, hsP3, hsP4, hsP5, hsP6, hsP7, hsP8⟩ := hsP
  obtain ⟨hsR9, hsR10, hsR11⟩ := hsR
  refine x_ofW (by decide) rfl (fun p e s m args below meth c Q hQ htab hx hb hr hlk hml hown hts hB hG hK hS hXS ls hl => ?_)
  have hl : lv_has ls 3 [(0, .ref (a 0)), (1, .int (nI j))] := hl
  have hown : s.vm.findClass RX = some m.cls := hown
  refine lv_aload_n hx hb dX_riser_0 rfl (lv_at hl 0 rfl) ?_
  refine lv_iload_n hx hb dX_riser_1 rfl (lv_at hl 1 rfl) ?_
  refine g_VvR (i := 0) (As := [.int (nI j)]) (rest := []) (kX_requirePart hA hsX0 ⟨hsP1, hsP2, hsP3, hsP4, hsP5, hsP6, hsP7, hsP8⟩ j (by omega) (by omega)) calX_requirePart cvX_requirePart mlX_52 hx hb hml hown hts hB hG hK hS (by decide) hsX0 rfl ⟨by decide, by decide⟩ rfl hl.1 rfl (Nat.le_of_ble_eq_true rfl) dX_riser_2 ⟨by decide, by decide⟩ (fun H locs hG hS => ?_)
  refine lv_aload_n hx hb dX_riser_5 rfl (lv_at hl 0 rfl) ?_
  refine lv_iload_n hx hb dX_riser_6 rfl (lv_at hl 1 rfl) ?_
  refine g_VvR (i := 0) (As := [.int (nI j)]) (rest := []) (kX_requireTold hA hsX0 ⟨hsP1, hsP2, hsP3, hsP4, hsP5, hsP6, hsP7, hsP8⟩ j (by omega) (by assumption)) calX_requireTold cvX_requireTold mlX_77 hx hb hml hown hts hB hG hK hS (by decide) hsX0 rfl ⟨by decide, by decide⟩ rfl hl.1 rfl (Nat.le_of_ble_eq_true rfl) dX_riser_7 ⟨by decide, by decide⟩ (fun H locs hG hS => ?_)
  refine lv_aload_n hx hb dX_riser_10 rfl (lv_at hl 0 rfl) ?_
  refine g_get hx hb hts inX hown hK hG 0 (by decide) hsX0 rfl 1 (by decide) lkX_19 rfl dX_riser_11 ?_
  refine lv_aload_n hx hb dX_riser_14 rfl (lv_at hl 0 rfl) ?_
  refine g_get hx hb hts inX hown hK hG 0 (by decide) hsX0 rfl 0 (by decide) lkX_10 rfl dX_riser_15 ?_
  refine lv_iload_n hx hb dX_riser_18 rfl (lv_at hl 1 rfl) ?_
  refine g_VlR (i := 1) (As := [.int (nI j)]) (rest := [.ref (a 9)]) (kP_upper hA ⟨hsP1, hsP2, hsP3, hsP4, hsP5, hsP6, hsP7, hsP8⟩ j (by omega)) calP_upper cvP_upper mlX_80 hx hb hml hown hts hB hG hK hS (by decide) hsP1 rfl ⟨by decide, by decide⟩ rfl hl.1 rfl (Nat.le_of_ble_eq_true rfl) dX_riser_19 ⟨by decide, by decide⟩ (fun H locs hG hS => ?_)
  refine lv_aload_n hx hb dX_riser_22 rfl (lv_at hl 0 rfl) ?_
  refine g_get hx hb hts inX hown hK hG 0 (by decide) hsX0 rfl 0 (by decide) lkX_10 rfl dX_riser_23 ?_
  refine lv_iload_n hx hb dX_riser_26 rfl (lv_at hl 1 rfl) ?_
  refine g_VlR (i := 1) (As := [.int (nI j)]) (rest := [.long (up j), .ref (a 9)]) (kP_lower hA ⟨hsP1, hsP2, hsP3, hsP4, hsP5, hsP6, hsP7, hsP8⟩ j (by omega)) calP_lower cvP_lower mlX_84 hx hb hml hown hts hB hG hK hS (by decide) hsP1 rfl ⟨by decide, by decide⟩ rfl hl.1 rfl (Nat.le_of_ble_eq_true rfl) dX_riser_27 ⟨by decide, by decide⟩ (fun H locs hG hS => ?_)
  refine g_ViR (i := 9) (As := [.long (up j), .long (lo j)]) (rest := []) (kR_firstFor hA ⟨hsR9, hsR10, hsR11⟩ (up j) (lo j) (by omega)) calR_firstFor cvR_firstFor mlX_129 hx hb hml hown hts hB hG hK hS (by decide) hsR9 rfl ⟨by decide, by decide⟩ rfl hl.1 rfl (Nat.le_of_ble_eq_true rfl) dX_riser_30 ⟨by decide, by decide⟩ (fun H locs hG hS => ?_)
  refine lv_istore_n (lv' := [(2, .int (fstF (rFitP ru rl (up j) (lo j)) nr 0)), (0, .ref (a 0)), (1, .int (nI j))]) hx hb dX_riser_33 rfl hl (by decide) rfl (fun ls hl => ?_)
  refine lv_iload_n hx hb dX_riser_34 rfl (lv_at hl 0 rfl) ?_
  refine lv_iconst (v := (-1)) hx hb dX_riser_35 (by decide) ?_
  refine lv_icmp_ne (tgt := 49) hx hb dX_riser_36 (by decide) (fun c1 => ?_) (fun c1 => ?_)
  · exact absurd hf c1
  · exact x_throw hQ hl9 xok_eUOE (show ((135 : Nat), "no riser row is great enough") ∈ xStr by decide +kernel) hx hb hml hown hts hG hK hS hXS hlk htab hl.1 dX_riser_39 dX_riser_42 dX_riser_43 dX_riser_45 dX_riser_48 (by decide) (by decide) (by decide) (by decide) (by decide) (by decide)

abbrev rmX_cutOff : Room := { frames := 2, cells := 0, slots := 0, locals := 42 }
set_option maxRecDepth 100000 in
set_option maxHeartbeats 4000000 in
theorem kX_cutOff {l : Launch} {D : va_G} {k : ClassId × ClassId × ClassId} {a : Nat → Nat} {B0 : Nat} {w : Nat → va_E} (hA : gA B0 a) {n : Nat} {up : Nat → Int64} {lo : Nat → Int64} {fa : Nat → Int32} {we : Nat → Int32} {ti : Nat → Int32} {ri : Nat → Int32} {jo : Nat → Int32} (hsX : sX k a w ) (hsP : sP k a w n up lo fa we ti ri jo) (j : Nat) (hj : j < n) (hn : n ≤ 12) (hr9 : ¬ ri j = -1) : Met l yX_cutOff (tbw yX_cutOff cX_cutOff 2 none) rmX_cutOff (gPc D k a B0 w [.ref (a 0), .int (nI j)]) (va_Qv (fun w1 => (sP k a w1 n up lo fa we ti (upd ri j (-1)) jo) ∧ ∀ z, z < 1 ∨ 8 < z → w1 z = w z) (gB D k a) (gF B0)) 0 0 (gF B0) := by
  have hsX0 := hsX
  obtain ⟨hsP1, hsP2, hsP3, hsP4, hsP5, hsP6, hsP7, hsP8⟩ := hsP
  refine g_ofW (by decide) rfl (fun p e s m args below meth c Q hQ hx hb hr hlk hml hown hts hB hG hK hS ls hl => ?_)
  have hl : lv_has ls 2 [(0, .ref (a 0)), (1, .int (nI j))] := hl
  have hown : s.vm.findClass RX = some m.cls := hown
  have hfr0 : ∀ z, z < 1 ∨ 8 < z → w z = w z := fun _ _ => rfl
  refine lv_aload_n hx hb dX_cutOff_0 rfl (lv_at hl 0 rfl) ?_
  refine lv_iload_n hx hb dX_cutOff_1 rfl (lv_at hl 1 rfl) ?_
  refine g_VvR (i := 0) (As := [.int (nI j)]) (rest := []) (kX_requirePart hA hsX0 ⟨hsP1, hsP2, hsP3, hsP4, hsP5, hsP6, hsP7, hsP8⟩ j (by omega) (by omega)) calX_requirePart cvX_requirePart mlX_52 hx hb hml hown hts hB hG hK hS (by decide) hsX0 rfl ⟨by decide, by decide⟩ rfl hl.1 rfl (Nat.le_of_ble_eq_true rfl) dX_cutOff_2 ⟨by decide, by decide⟩ (fun H locs hG hS => ?_)
  refine lv_aload_n hx hb dX_cutOff_5 rfl (lv_at hl 0 rfl) ?_
  refine g_get hx hb hts inX hown hK hG 0 (by decide) hsX0 rfl 0 (by decide) lkX_10 rfl dX_cutOff_6 ?_
  refine lv_iload_n hx hb dX_cutOff_9 rfl (lv_at hl 1 rfl) ?_
  refine g_ViR (i := 1) (As := [.int (nI j)]) (rest := []) (kP_riserOf hA ⟨hsP1, hsP2, hsP3, hsP4, hsP5, hsP6, hsP7, hsP8⟩ j (by omega)) calP_riserOf cvP_riserOf mlX_142 hx hb hml hown hts hB hG hK hS (by decide) hsP1 rfl ⟨by decide, by decide⟩ rfl hl.1 rfl (Nat.le_of_ble_eq_true rfl) dX_cutOff_10 ⟨by decide, by decide⟩ (fun H locs hG hS => ?_)
  refine lv_iconst (v := (-1)) hx hb dX_cutOff_13 (by decide) ?_
  refine lv_icmp_ne (tgt := 27) hx hb dX_cutOff_14 (by decide) (fun c1 => ?_) (fun c1 => ?_)
  · refine lv_aload_n hx hb dX_cutOff_27 rfl (lv_at hl 0 rfl) ?_
    refine g_get hx hb hts inX hown hK hG 0 (by decide) hsX0 rfl 0 (by decide) lkX_10 rfl dX_cutOff_28 ?_
    refine lv_iload_n hx hb dX_cutOff_31 rfl (lv_at hl 1 rfl) ?_
    refine lv_iconst (v := (-1)) hx hb dX_cutOff_32 (by decide) ?_
    refine g_Vv (i := 1) (As := [.int (nI j), .int (-1)]) (rest := []) (kP_setRiser hA ⟨hsP1, hsP2, hsP3, hsP4, hsP5, hsP6, hsP7, hsP8⟩ j (-1) (by omega)) calP_setRiser cvP_setRiser mlX_138 hx hb hml hown hts hB hG hK hS (by decide) hsP1 rfl ⟨by decide, by decide⟩ rfl hl.1 rfl (Nat.le_of_ble_eq_true rfl) dX_cutOff_33 ⟨by decide, by decide⟩ (fun w3 H locs hp4 hG hS => ?_)
    obtain ⟨⟨h5, h6, h7, h8, h9, h10, h11, h12⟩, hfr14⟩ := hp4
    have h15 : w3 0 = .inr (0, [.ref (a 1), .ref (a 9), .ref (a 12), .ref (a 15)]) := (hfr14 0 (by omega)).trans hsX0
    have hfr16 : ∀ z, z < 1 ∨ 8 < z → w3 z = w z := fun z hz => (hfr14 z (by omega)).trans (hfr0 z hz)
    exact g_vret hQ hx hb hr hlk hG hK hS (by decide) (by decide) ⟨⟨h5, h6, h7, h8, h9, h10, h11, h12⟩, hfr16⟩ dX_cutOff_36
  · exfalso
    first | omega | contradiction | (simp_all; done) | grind

abbrev rmX_cutOff_p : Room := { frames := 7, cells := 1, slots := 6, locals := 103 }
set_option maxRecDepth 100000 in
set_option maxHeartbeats 4000000 in
theorem kX_cutOff_p {l : Launch} (hl9 : l.stackTraces = false) {D : va_G} {k : ClassId × ClassId × ClassId} {a : Nat → Nat} {B0 : Nat} {w : Nat → va_E} (hA : gA B0 a) {n : Nat} {up : Nat → Int64} {lo : Nat → Int64} {fa : Nat → Int32} {we : Nat → Int32} {ti : Nat → Int32} {ri : Nat → Int32} {jo : Nat → Int32} (hsX : sX k a w ) (hsP : sP k a w n up lo fa we ti ri jo) (q : Int32) (hq : ¬ (¬ q < 0 ∧ ¬ nI n ≤ q)) : xMet l yX_cutOff cX_cutOff 2 none rmX_cutOff_p D k a B0 w [.ref (a 0), .int q] eIOB := by
  have hsX0 := hsX
  obtain ⟨hsP1, hsP2, hsP3, hsP4, hsP5, hsP6, hsP7, hsP8⟩ := hsP
  refine x_ofW (by decide) rfl (fun p e s m args below meth c Q hQ htab hx hb hr hlk hml hown hts hB hG hK hS hXS ls hl => ?_)
  have hl : lv_has ls 2 [(0, .ref (a 0)), (1, .int q)] := hl
  have hown : s.vm.findClass RX = some m.cls := hown
  refine lv_aload_n hx hb dX_cutOff_0 rfl (lv_at hl 0 rfl) ?_
  refine lv_iload_n hx hb dX_cutOff_1 rfl (lv_at hl 1 rfl) ?_
  exact x_VB (i := 0) (As := [.int q]) (rest := []) hQ htab hlk (kX_requirePart_b hl9 hA hsX0 ⟨hsP1, hsP2, hsP3, hsP4, hsP5, hsP6, hsP7, hsP8⟩ q (by assumption)) calX_requirePart cvX_requirePart mlX_52 hx hb hml hown hts hB hG hK hS hXS (by decide) hsX0 rfl ⟨by decide, by decide⟩ rfl hl.1 rfl (Nat.le_of_ble_eq_true rfl) dX_cutOff_2 ⟨by decide, by decide⟩ (by decide) (by decide)

abbrev rmX_cutOff_r : Room := { frames := 7, cells := 1, slots := 6, locals := 103 }
set_option maxRecDepth 100000 in
set_option maxHeartbeats 4000000 in
theorem kX_cutOff_r {l : Launch} (hl9 : l.stackTraces = false) {D : va_G} {k : ClassId × ClassId × ClassId} {a : Nat → Nat} {B0 : Nat} {w : Nat → va_E} (hA : gA B0 a) {n : Nat} {up : Nat → Int64} {lo : Nat → Int64} {fa : Nat → Int32} {we : Nat → Int32} {ti : Nat → Int32} {ri : Nat → Int32} {jo : Nat → Int32} (hsX : sX k a w ) (hsP : sP k a w n up lo fa we ti ri jo) (j : Nat) (hj : j < n) (hn : n ≤ 12) (hr9 : ri j = -1) : xMet l yX_cutOff cX_cutOff 2 none rmX_cutOff_r D k a B0 w [.ref (a 0), .int (nI j)] eISE := by
  have hsX0 := hsX
  obtain ⟨hsP1, hsP2, hsP3, hsP4, hsP5, hsP6, hsP7, hsP8⟩ := hsP
  refine x_ofW (by decide) rfl (fun p e s m args below meth c Q hQ htab hx hb hr hlk hml hown hts hB hG hK hS hXS ls hl => ?_)
  have hl : lv_has ls 2 [(0, .ref (a 0)), (1, .int (nI j))] := hl
  have hown : s.vm.findClass RX = some m.cls := hown
  refine lv_aload_n hx hb dX_cutOff_0 rfl (lv_at hl 0 rfl) ?_
  refine lv_iload_n hx hb dX_cutOff_1 rfl (lv_at hl 1 rfl) ?_
  refine g_VvR (i := 0) (As := [.int (nI j)]) (rest := []) (kX_requirePart hA hsX0 ⟨hsP1, hsP2, hsP3, hsP4, hsP5, hsP6, hsP7, hsP8⟩ j (by omega) (by omega)) calX_requirePart cvX_requirePart mlX_52 hx hb hml hown hts hB hG hK hS (by decide) hsX0 rfl ⟨by decide, by decide⟩ rfl hl.1 rfl (Nat.le_of_ble_eq_true rfl) dX_cutOff_2 ⟨by decide, by decide⟩ (fun H locs hG hS => ?_)
  refine lv_aload_n hx hb dX_cutOff_5 rfl (lv_at hl 0 rfl) ?_
  refine g_get hx hb hts inX hown hK hG 0 (by decide) hsX0 rfl 0 (by decide) lkX_10 rfl dX_cutOff_6 ?_
  refine lv_iload_n hx hb dX_cutOff_9 rfl (lv_at hl 1 rfl) ?_
  refine g_ViR (i := 1) (As := [.int (nI j)]) (rest := []) (kP_riserOf hA ⟨hsP1, hsP2, hsP3, hsP4, hsP5, hsP6, hsP7, hsP8⟩ j (by omega)) calP_riserOf cvP_riserOf mlX_142 hx hb hml hown hts hB hG hK hS (by decide) hsP1 rfl ⟨by decide, by decide⟩ rfl hl.1 rfl (Nat.le_of_ble_eq_true rfl) dX_cutOff_10 ⟨by decide, by decide⟩ (fun H locs hG hS => ?_)
  refine lv_iconst (v := (-1)) hx hb dX_cutOff_13 (by decide) ?_
  refine lv_icmp_ne (tgt := 27) hx hb dX_cutOff_14 (by decide) (fun c1 => ?_) (fun c1 => ?_)
  · exact absurd hr9 c1
  · exact x_throw hQ hl9 xok_eISE (show ((145 : Nat), "the part has no riser") ∈ xStr by decide +kernel) hx hb hml hown hts hG hK hS hXS hlk htab hl.1 dX_cutOff_17 dX_cutOff_20 dX_cutOff_21 dX_cutOff_23 dX_cutOff_26 (by decide) (by decide) (by decide) (by decide) (by decide) (by decide)

abbrev rmX_flowRow : Room := { frames := 1, cells := 0, slots := 0, locals := 22 }
set_option maxRecDepth 100000 in
set_option maxHeartbeats 4000000 in
theorem kX_flowRow {l : Launch} {D : va_G} {k : ClassId × ClassId × ClassId} {a : Nat → Nat} {B0 : Nat} {w : Nat → va_E} (hA : gA B0 a) {nf : Nat} {fo : Nat → Int32} {ff : Nat → Int32} (hsX : sX k a w ) (hsF : sF k a w nf fo ff) (q : Int32) (f : Int32) (hn : nf < 8) (h1 : opR q) (h2 : flR f) (hm : nf = 0 ∨ (¬ q ≤ fo (nf - 1) ∧ ¬ f < ff (nf - 1))) : Met l yX_flowRow (tbw yX_flowRow cX_flowRow 3 (some .int)) rmX_flowRow (gPc D k a B0 w [.ref (a 0), .int q, .int f]) (va_Qi (fun r w1 => r = (nI (nf + 1)) ∧ (sF k a w1 (nf + 1) (upd fo nf q) (upd ff nf f)) ∧ ∀ z, z < 12 ∨ 14 < z → w1 z = w z) (gB D k a) (gF B0)) 0 0 (gF B0) := by
  have hsX0 := hsX
  obtain ⟨hsF12, hsF13, hsF14⟩ := hsF
  refine g_ofW (by decide) rfl (fun p e s m args below meth c Q hQ hx hb hr hlk hml hown hts hB hG hK hS ls hl => ?_)
  have hl : lv_has ls 3 [(0, .ref (a 0)), (1, .int q), (2, .int f)] := hl
  have hown : s.vm.findClass RX = some m.cls := hown
  have hfr0 : ∀ z, z < 12 ∨ 14 < z → w z = w z := fun _ _ => rfl
  refine lv_aload_n hx hb dX_flowRow_0 rfl (lv_at hl 0 rfl) ?_
  refine g_get hx hb hts inX hown hK hG 0 (by decide) hsX0 rfl 2 (by decide) lkX_26 rfl dX_flowRow_1 ?_
  refine g_ViR (i := 12) (As := []) (rest := []) (kF_isFull hA ⟨hsF12, hsF13, hsF14⟩ (by omega)) calF_isFull cvF_isFull mlX_150 hx hb hml hown hts hB hG hK hS (by decide) hsF12 rfl ⟨by decide, by decide⟩ rfl hl.1 rfl (Nat.le_of_ble_eq_true rfl) dX_flowRow_4 ⟨by decide, by decide⟩ (fun H locs hG hS => ?_)
  refine lb_if_eq (tgt := 20) hx hb dX_flowRow_7 (by decide) (fun c1 => ?_) (fun c1 => ?_)
  · refine lv_iload_n hx hb dX_flowRow_20 rfl (lv_at hl 1 rfl) ?_
    refine g_SvR (As := [.int q]) (rest := []) (kX_requireOpening hA q (by assumption)) calX_requireOpening cvX_requireOpening mlX_153 hx hb hml hown hts hB hG hK hS ⟨by decide, by decide⟩ rfl hl.1 rfl (Nat.le_of_ble_eq_true rfl) dX_flowRow_21 ⟨by decide, by decide⟩ (fun H locs hG hS => ?_)
    refine lv_iload_n hx hb dX_flowRow_24 rfl (lv_at hl 2 rfl) ?_
    refine g_SvR (As := [.int f]) (rest := []) (kX_requireFlow hA f (by assumption)) calX_requireFlow cvX_requireFlow mlX_156 hx hb hml hown hts hB hG hK hS ⟨by decide, by decide⟩ rfl hl.1 rfl (Nat.le_of_ble_eq_true rfl) dX_flowRow_25 ⟨by decide, by decide⟩ (fun H locs hG hS => ?_)
    refine lv_aload_n hx hb dX_flowRow_28 rfl (lv_at hl 0 rfl) ?_
    refine g_get hx hb hts inX hown hK hG 0 (by decide) hsX0 rfl 2 (by decide) lkX_26 rfl dX_flowRow_29 ?_
    refine lv_iload_n hx hb dX_flowRow_32 rfl (lv_at hl 1 rfl) ?_
    refine lv_iload_n hx hb dX_flowRow_33 rfl (lv_at hl 2 rfl) ?_
    refine g_ViR (i := 12) (As := [.int q, .int f]) (rest := []) (kF_mayFollow hA ⟨hsF12, hsF13, hsF14⟩ q f (by omega)) calF_mayFollow cvF_mayFollow mlX_159 hx hb hml hown hts hB hG hK hS (by decide) hsF12 rfl ⟨by decide, by decide⟩ rfl hl.1 rfl (Nat.le_of_ble_eq_true rfl) dX_flowRow_34 ⟨by decide, by decide⟩ (fun H locs hG hS => ?_)
    refine lb_if_ne (tgt := 50) hx hb dX_flowRow_37 (by decide) (fun c2 => ?_) (fun c2 => ?_)
    · refine lv_aload_n hx hb dX_flowRow_50 rfl (lv_at hl 0 rfl) ?_
      refine g_get hx hb hts inX hown hK hG 0 (by decide) hsX0 rfl 2 (by decide) lkX_26 rfl dX_flowRow_51 ?_
      refine lv_iload_n hx hb dX_flowRow_54 rfl (lv_at hl 1 rfl) ?_
      refine lv_iload_n hx hb dX_flowRow_55 rfl (lv_at hl 2 rfl) ?_
      refine g_Vi (i := 12) (As := [.int q, .int f]) (rest := []) (kF_addRow hA ⟨hsF12, hsF13, hsF14⟩ q f (by omega)) calF_addRow cvF_addRow mlX_164 hx hb hml hown hts hB hG hK hS (by decide) hsF12 rfl ⟨by decide, by decide⟩ rfl hl.1 rfl (Nat.le_of_ble_eq_true rfl) dX_flowRow_56 ⟨by decide, by decide⟩ (fun r3 w4 H locs hp5 hG hS => ?_)
      obtain ⟨er9, ⟨h6, h7, h8⟩, hfr10⟩ := hp5
      have h11 : w4 0 = .inr (0, [.ref (a 1), .ref (a 9), .ref (a 12), .ref (a 15)]) := (hfr10 0 (by omega)).trans hsX0
      have hfr12 : ∀ z, z < 12 ∨ 14 < z → w4 z = w z := fun z hz => (hfr10 z (by omega)).trans (hfr0 z hz)
      rw [er9]
      exact g_iret hQ hx hb hr hlk hG hK hS (by decide) (by decide) ⟨by first | rfl | omega | (simp_all; done) | grind, ⟨h6, h7, h8⟩, hfr12⟩ dX_flowRow_59
    · exfalso
      first | omega | contradiction | (simp_all; done) | grind
  · exfalso
    first | omega | contradiction | (simp_all; done) | grind

abbrev rmX_flowRow_f : Room := { frames := 7, cells := 1, slots := 6, locals := 102 }
set_option maxRecDepth 100000 in
set_option maxHeartbeats 4000000 in
theorem kX_flowRow_f {l : Launch} (hl9 : l.stackTraces = false) {D : va_G} {k : ClassId × ClassId × ClassId} {a : Nat → Nat} {B0 : Nat} {w : Nat → va_E} (hA : gA B0 a) {nf : Nat} {fo : Nat → Int32} {ff : Nat → Int32} (hsX : sX k a w ) (hsF : sF k a w nf fo ff) (q : Int32) (f : Int32) (hn : nf = 8) : xMet l yX_flowRow cX_flowRow 3 (some .int) rmX_flowRow_f D k a B0 w [.ref (a 0), .int q, .int f] eISE := by
  have hsX0 := hsX
  obtain ⟨hsF12, hsF13, hsF14⟩ := hsF
  refine x_ofW (by decide) rfl (fun p e s m args below meth c Q hQ htab hx hb hr hlk hml hown hts hB hG hK hS hXS ls hl => ?_)
  have hl : lv_has ls 3 [(0, .ref (a 0)), (1, .int q), (2, .int f)] := hl
  have hown : s.vm.findClass RX = some m.cls := hown
  refine lv_aload_n hx hb dX_flowRow_0 rfl (lv_at hl 0 rfl) ?_
  refine g_get hx hb hts inX hown hK hG 0 (by decide) hsX0 rfl 2 (by decide) lkX_26 rfl dX_flowRow_1 ?_
  refine g_ViR (i := 12) (As := []) (rest := []) (kF_isFull hA ⟨hsF12, hsF13, hsF14⟩ (by omega)) calF_isFull cvF_isFull mlX_150 hx hb hml hown hts hB hG hK hS (by decide) hsF12 rfl ⟨by decide, by decide⟩ rfl hl.1 rfl (Nat.le_of_ble_eq_true rfl) dX_flowRow_4 ⟨by decide, by decide⟩ (fun H locs hG hS => ?_)
  refine lb_if_eq (tgt := 20) hx hb dX_flowRow_7 (by decide) (fun c1 => ?_) (fun c1 => ?_)
  · exact absurd (by omega) c1
  · exact x_throw hQ hl9 xok_eISE (show ((151 : Nat), "there are 8 flow rows") ∈ xStr by decide +kernel) hx hb hml hown hts hG hK hS hXS hlk htab hl.1 dX_flowRow_10 dX_flowRow_13 dX_flowRow_14 dX_flowRow_16 dX_flowRow_19 (by decide) (by decide) (by decide) (by decide) (by decide) (by decide)

abbrev rmX_flowRow_z : Room := { frames := 7, cells := 1, slots := 6, locals := 102 }
set_option maxRecDepth 100000 in
set_option maxHeartbeats 4000000 in
theorem kX_flowRow_z {l : Launch} (hl9 : l.stackTraces = false) {D : va_G} {k : ClassId × ClassId × ClassId} {a : Nat → Nat} {B0 : Nat} {w : Nat → va_E} (hA : gA B0 a) {nf : Nat} {fo : Nat → Int32} {ff : Nat → Int32} (hsX : sX k a w ) (hsF : sF k a w nf fo ff) (q : Int32) (f : Int32) (hn : nf < 8) (hz : ¬ (opR q ∧ flR f)) : xMet l yX_flowRow cX_flowRow 3 (some .int) rmX_flowRow_z D k a B0 w [.ref (a 0), .int q, .int f] eIAE := by
  have hsX0 := hsX
  obtain ⟨hsF12, hsF13, hsF14⟩ := hsF
  refine x_ofW (by decide) rfl (fun p e s m args below meth c Q hQ htab hx hb hr hlk hml hown hts hB hG hK hS hXS ls hl => ?_)
  have hl : lv_has ls 3 [(0, .ref (a 0)), (1, .int q), (2, .int f)] := hl
  have hown : s.vm.findClass RX = some m.cls := hown
  refine lv_aload_n hx hb dX_flowRow_0 rfl (lv_at hl 0 rfl) ?_
  refine g_get hx hb hts inX hown hK hG 0 (by decide) hsX0 rfl 2 (by decide) lkX_26 rfl dX_flowRow_1 ?_
  refine g_ViR (i := 12) (As := []) (rest := []) (kF_isFull hA ⟨hsF12, hsF13, hsF14⟩ (by omega)) calF_isFull cvF_isFull mlX_150 hx hb hml hown hts hB hG hK hS (by decide) hsF12 rfl ⟨by decide, by decide⟩ rfl hl.1 rfl (Nat.le_of_ble_eq_true rfl) dX_flowRow_4 ⟨by decide, by decide⟩ (fun H locs hG hS => ?_)
  refine lb_if_eq (tgt := 20) hx hb dX_flowRow_7 (by decide) (fun c1 => ?_) (fun c1 => ?_)
  · refine lv_iload_n hx hb dX_flowRow_20 rfl (lv_at hl 1 rfl) ?_
    by_cases hs2 : opR q
    · refine g_SvR (As := [.int q]) (rest := []) (kX_requireOpening hA q (by assumption)) calX_requireOpening cvX_requireOpening mlX_153 hx hb hml hown hts hB hG hK hS ⟨by decide, by decide⟩ rfl hl.1 rfl (Nat.le_of_ble_eq_true rfl) dX_flowRow_21 ⟨by decide, by decide⟩ (fun H locs hG hS => ?_)
      refine lv_iload_n hx hb dX_flowRow_24 rfl (lv_at hl 2 rfl) ?_
      by_cases hs3 : flR f
      · refine g_SvR (As := [.int f]) (rest := []) (kX_requireFlow hA f (by assumption)) calX_requireFlow cvX_requireFlow mlX_156 hx hb hml hown hts hB hG hK hS ⟨by decide, by decide⟩ rfl hl.1 rfl (Nat.le_of_ble_eq_true rfl) dX_flowRow_25 ⟨by decide, by decide⟩ (fun H locs hG hS => ?_)
        exact absurd ⟨by assumption, by assumption⟩ hz
      · exact x_SB (As := [.int f]) (rest := []) hQ htab hlk (kX_requireFlow_b hl9 hA f (by assumption)) calX_requireFlow cvX_requireFlow mlX_156 hx hb hml hown hts hB hG hK hS hXS ⟨by decide, by decide⟩ rfl hl.1 rfl (Nat.le_of_ble_eq_true rfl) dX_flowRow_25 ⟨by decide, by decide⟩ (by decide) (by decide)
    · exact x_SB (As := [.int q]) (rest := []) hQ htab hlk (kX_requireOpening_b hl9 hA q (by assumption)) calX_requireOpening cvX_requireOpening mlX_153 hx hb hml hown hts hB hG hK hS hXS ⟨by decide, by decide⟩ rfl hl.1 rfl (Nat.le_of_ble_eq_true rfl) dX_flowRow_21 ⟨by decide, by decide⟩ (by decide) (by decide)
  · exfalso
    first | omega | contradiction | (simp_all; done) | grind

abbrev rmX_flowRow_m : Room := { frames := 7, cells := 1, slots := 6, locals := 102 }
set_option maxRecDepth 100000 in
set_option maxHeartbeats 4000000 in
theorem kX_flowRow_m {l : Launch} (hl9 : l.stackTraces = false) {D : va_G} {k : ClassId × ClassId × ClassId} {a : Nat → Nat} {B0 : Nat} {w : Nat → va_E} (hA : gA B0 a) {nf : Nat} {fo : Nat → Int32} {ff : Nat → Int32} (hsX : sX k a w ) (hsF : sF k a w nf fo ff) (q : Int32) (f : Int32) (hn : nf < 8) (h1 : opR q) (h2 : flR f) (hm : ¬ (nf = 0 ∨ (¬ q ≤ fo (nf - 1) ∧ ¬ f < ff (nf - 1)))) : xMet l yX_flowRow cX_flowRow 3 (some .int) rmX_flowRow_m D k a B0 w [.ref (a 0), .int q, .int f] eUOE := by
  have hsX0 := hsX
  obtain ⟨hsF12, hsF13, hsF14⟩ := hsF
  refine x_ofW (by decide) rfl (fun p e s m args below meth c Q hQ htab hx hb hr hlk hml hown hts hB hG hK hS hXS ls hl => ?_)
  have hl : lv_has ls 3 [(0, .ref (a 0)), (1, .int q), (2, .int f)] := hl
  have hown : s.vm.findClass RX = some m.cls := hown
  refine lv_aload_n hx hb dX_flowRow_0 rfl (lv_at hl 0 rfl) ?_
  refine g_get hx hb hts inX hown hK hG 0 (by decide) hsX0 rfl 2 (by decide) lkX_26 rfl dX_flowRow_1 ?_
  refine g_ViR (i := 12) (As := []) (rest := []) (kF_isFull hA ⟨hsF12, hsF13, hsF14⟩ (by omega)) calF_isFull cvF_isFull mlX_150 hx hb hml hown hts hB hG hK hS (by decide) hsF12 rfl ⟨by decide, by decide⟩ rfl hl.1 rfl (Nat.le_of_ble_eq_true rfl) dX_flowRow_4 ⟨by decide, by decide⟩ (fun H locs hG hS => ?_)
  refine lb_if_eq (tgt := 20) hx hb dX_flowRow_7 (by decide) (fun c1 => ?_) (fun c1 => ?_)
  · refine lv_iload_n hx hb dX_flowRow_20 rfl (lv_at hl 1 rfl) ?_
    refine g_SvR (As := [.int q]) (rest := []) (kX_requireOpening hA q (by assumption)) calX_requireOpening cvX_requireOpening mlX_153 hx hb hml hown hts hB hG hK hS ⟨by decide, by decide⟩ rfl hl.1 rfl (Nat.le_of_ble_eq_true rfl) dX_flowRow_21 ⟨by decide, by decide⟩ (fun H locs hG hS => ?_)
    refine lv_iload_n hx hb dX_flowRow_24 rfl (lv_at hl 2 rfl) ?_
    refine g_SvR (As := [.int f]) (rest := []) (kX_requireFlow hA f (by assumption)) calX_requireFlow cvX_requireFlow mlX_156 hx hb hml hown hts hB hG hK hS ⟨by decide, by decide⟩ rfl hl.1 rfl (Nat.le_of_ble_eq_true rfl) dX_flowRow_25 ⟨by decide, by decide⟩ (fun H locs hG hS => ?_)
    refine lv_aload_n hx hb dX_flowRow_28 rfl (lv_at hl 0 rfl) ?_
    refine g_get hx hb hts inX hown hK hG 0 (by decide) hsX0 rfl 2 (by decide) lkX_26 rfl dX_flowRow_29 ?_
    refine lv_iload_n hx hb dX_flowRow_32 rfl (lv_at hl 1 rfl) ?_
    refine lv_iload_n hx hb dX_flowRow_33 rfl (lv_at hl 2 rfl) ?_
    refine g_ViR (i := 12) (As := [.int q, .int f]) (rest := []) (kF_mayFollow hA ⟨hsF12, hsF13, hsF14⟩ q f (by omega)) calF_mayFollow cvF_mayFollow mlX_159 hx hb hml hown hts hB hG hK hS (by decide) hsF12 rfl ⟨by decide, by decide⟩ rfl hl.1 rfl (Nat.le_of_ble_eq_true rfl) dX_flowRow_34 ⟨by decide, by decide⟩ (fun H locs hG hS => ?_)
    refine lb_if_ne (tgt := 50) hx hb dX_flowRow_37 (by decide) (fun c2 => ?_) (fun c2 => ?_)
    · exact absurd c2 hm
    · exact x_throw hQ hl9 xok_eUOE (show ((162 : Nat), "openings rise and flows do not fall") ∈ xStr by decide +kernel) hx hb hml hown hts hG hK hS hXS hlk htab hl.1 dX_flowRow_40 dX_flowRow_43 dX_flowRow_44 dX_flowRow_46 dX_flowRow_49 (by decide) (by decide) (by decide) (by decide) (by decide) (by decide)
  · exfalso
    first | omega | contradiction | (simp_all; done) | grind

abbrev rmX_flow : Room := { frames := 2, cells := 0, slots := 0, locals := 49 }
set_option maxRecDepth 100000 in
set_option maxHeartbeats 4000000 in
theorem kX_flow {l : Launch} {D : va_G} {k : ClassId × ClassId × ClassId} {a : Nat → Nat} {B0 : Nat} {w : Nat → va_E} (hA : gA B0 a) {nf : Nat} {fo : Nat → Int32} {ff : Nat → Int32} (hsX : sX k a w ) (hsF : sF k a w nf fo ff) (q : Int32) (h0 : 0 < nf) (hn : nf ≤ 8) (h1 : opR q) : Met l yX_flow (tbw yX_flow cX_flow 2 (some .int)) rmX_flow (gPc D k a B0 w [.ref (a 0), .int q]) (va_Qi (roP (flAt fo ff nf q) w) (gB D k a) (gF B0)) 0 0 (gF B0) := by
  have hsX0 := hsX
  obtain ⟨hsF12, hsF13, hsF14⟩ := hsF
  refine g_ofW (by decide) rfl (fun p e s m args below meth c Q hQ hx hb hr hlk hml hown hts hB hG hK hS ls hl => ?_)
  have hl : lv_has ls 2 [(0, .ref (a 0)), (1, .int q)] := hl
  have hown : s.vm.findClass RX = some m.cls := hown
  refine lv_aload_n hx hb dX_flow_0 rfl (lv_at hl 0 rfl) ?_
  refine g_VvR (i := 0) (As := []) (rest := []) (kX_requireFlowRows hA hsX0 ⟨hsF12, hsF13, hsF14⟩ (by omega) (by omega)) calX_requireFlowRows cvX_requireFlowRows mlX_165 hx hb hml hown hts hB hG hK hS (by decide) hsX0 rfl ⟨by decide, by decide⟩ rfl hl.1 rfl (Nat.le_of_ble_eq_true rfl) dX_flow_1 ⟨by decide, by decide⟩ (fun H locs hG hS => ?_)
  refine lv_iload_n hx hb dX_flow_4 rfl (lv_at hl 1 rfl) ?_
  refine g_SvR (As := [.int q]) (rest := []) (kX_requireOpening hA q (by assumption)) calX_requireOpening cvX_requireOpening mlX_153 hx hb hml hown hts hB hG hK hS ⟨by decide, by decide⟩ rfl hl.1 rfl (Nat.le_of_ble_eq_true rfl) dX_flow_5 ⟨by decide, by decide⟩ (fun H locs hG hS => ?_)
  refine lv_aload_n hx hb dX_flow_8 rfl (lv_at hl 0 rfl) ?_
  refine g_get hx hb hts inX hown hK hG 0 (by decide) hsX0 rfl 2 (by decide) lkX_26 rfl dX_flow_9 ?_
  refine lv_iload_n hx hb dX_flow_12 rfl (lv_at hl 1 rfl) ?_
  refine g_ViR (i := 12) (As := [.int q]) (rest := []) (kF_flowAt hA ⟨hsF12, hsF13, hsF14⟩ q (by omega) (by omega)) calF_flowAt cvF_flowAt mlX_168 hx hb hml hown hts hB hG hK hS (by decide) hsF12 rfl ⟨by decide, by decide⟩ rfl hl.1 rfl (Nat.le_of_ble_eq_true rfl) dX_flow_13 ⟨by decide, by decide⟩ (fun H locs hG hS => ?_)
  exact g_iret hQ hx hb hr hlk hG hK hS (by decide) (by decide) ⟨by first | rfl | omega | (simp_all; done) | grind, rfl⟩ dX_flow_16

abbrev rmX_flow_f : Room := { frames := 7, cells := 1, slots := 6, locals := 102 }
set_option maxRecDepth 100000 in
set_option maxHeartbeats 4000000 in
theorem kX_flow_f {l : Launch} (hl9 : l.stackTraces = false) {D : va_G} {k : ClassId × ClassId × ClassId} {a : Nat → Nat} {B0 : Nat} {w : Nat → va_E} (hA : gA B0 a) {nf : Nat} {fo : Nat → Int32} {ff : Nat → Int32} (hsX : sX k a w ) (hsF : sF k a w nf fo ff) (q : Int32) (h0 : nf = 0) : xMet l yX_flow cX_flow 2 (some .int) rmX_flow_f D k a B0 w [.ref (a 0), .int q] eISE := by
  have hsX0 := hsX
  obtain ⟨hsF12, hsF13, hsF14⟩ := hsF
  refine x_ofW (by decide) rfl (fun p e s m args below meth c Q hQ htab hx hb hr hlk hml hown hts hB hG hK hS hXS ls hl => ?_)
  have hl : lv_has ls 2 [(0, .ref (a 0)), (1, .int q)] := hl
  have hown : s.vm.findClass RX = some m.cls := hown
  refine lv_aload_n hx hb dX_flow_0 rfl (lv_at hl 0 rfl) ?_
  exact x_VB (i := 0) (As := []) (rest := []) hQ htab hlk (kX_requireFlowRows_b hl9 hA hsX0 ⟨hsF12, hsF13, hsF14⟩ (by omega)) calX_requireFlowRows cvX_requireFlowRows mlX_165 hx hb hml hown hts hB hG hK hS hXS (by decide) hsX0 rfl ⟨by decide, by decide⟩ rfl hl.1 rfl (Nat.le_of_ble_eq_true rfl) dX_flow_1 ⟨by decide, by decide⟩ (by decide) (by decide)

abbrev rmX_flow_z : Room := { frames := 7, cells := 1, slots := 6, locals := 102 }
set_option maxRecDepth 100000 in
set_option maxHeartbeats 4000000 in
theorem kX_flow_z {l : Launch} (hl9 : l.stackTraces = false) {D : va_G} {k : ClassId × ClassId × ClassId} {a : Nat → Nat} {B0 : Nat} {w : Nat → va_E} (hA : gA B0 a) {nf : Nat} {fo : Nat → Int32} {ff : Nat → Int32} (hsX : sX k a w ) (hsF : sF k a w nf fo ff) (q : Int32) (h0 : 0 < nf) (hn : nf ≤ 8) (h1 : ¬ opR q) : xMet l yX_flow cX_flow 2 (some .int) rmX_flow_z D k a B0 w [.ref (a 0), .int q] eIAE := by
  have hsX0 := hsX
  obtain ⟨hsF12, hsF13, hsF14⟩ := hsF
  refine x_ofW (by decide) rfl (fun p e s m args below meth c Q hQ htab hx hb hr hlk hml hown hts hB hG hK hS hXS ls hl => ?_)
  have hl : lv_has ls 2 [(0, .ref (a 0)), (1, .int q)] := hl
  have hown : s.vm.findClass RX = some m.cls := hown
  refine lv_aload_n hx hb dX_flow_0 rfl (lv_at hl 0 rfl) ?_
  refine g_VvR (i := 0) (As := []) (rest := []) (kX_requireFlowRows hA hsX0 ⟨hsF12, hsF13, hsF14⟩ (by omega) (by omega)) calX_requireFlowRows cvX_requireFlowRows mlX_165 hx hb hml hown hts hB hG hK hS (by decide) hsX0 rfl ⟨by decide, by decide⟩ rfl hl.1 rfl (Nat.le_of_ble_eq_true rfl) dX_flow_1 ⟨by decide, by decide⟩ (fun H locs hG hS => ?_)
  refine lv_iload_n hx hb dX_flow_4 rfl (lv_at hl 1 rfl) ?_
  exact x_SB (As := [.int q]) (rest := []) hQ htab hlk (kX_requireOpening_b hl9 hA q (by assumption)) calX_requireOpening cvX_requireOpening mlX_153 hx hb hml hown hts hB hG hK hS hXS ⟨by decide, by decide⟩ rfl hl.1 rfl (Nat.le_of_ble_eq_true rfl) dX_flow_5 ⟨by decide, by decide⟩ (by decide) (by decide)

abbrev rmX_gate : Room := { frames := 3, cells := 0, slots := 0, locals := 74 }
set_option maxRecDepth 100000 in
set_option maxHeartbeats 4000000 in
theorem kX_gate {l : Launch} {D : va_G} {k : ClassId × ClassId × ClassId} {a : Nat → Nat} {B0 : Nat} {w : Nat → va_E} (hA : gA B0 a) {nf : Nat} {fo : Nat → Int32} {ff : Nat → Int32} (hsX : sX k a w ) (hsF : sF k a w nf fo ff) (q : Int32) (h0 : 0 < nf) (hn : nf ≤ 8) (h1 : flR q) (hm : q ≤ flAt fo ff nf 10000) : Met l yX_gate (tbw yX_gate cX_gate 2 (some .int)) rmX_gate (gPc D k a B0 w [.ref (a 0), .int q]) (va_Qi (roP (nI (gaF (flAt fo ff nf) q 100 0 10000)) w) (gB D k a) (gF B0)) 0 0 (gF B0) := by
  have hsX0 := hsX
  obtain ⟨hsF12, hsF13, hsF14⟩ := hsF
  refine g_ofW (by decide) rfl (fun p e s m args below meth c Q hQ hx hb hr hlk hml hown hts hB hG hK hS ls hl => ?_)
  have hl : lv_has ls 2 [(0, .ref (a 0)), (1, .int q)] := hl
  have hown : s.vm.findClass RX = some m.cls := hown
  refine lv_aload_n hx hb dX_gate_0 rfl (lv_at hl 0 rfl) ?_
  refine g_VvR (i := 0) (As := []) (rest := []) (kX_requireFlowRows hA hsX0 ⟨hsF12, hsF13, hsF14⟩ (by omega) (by omega)) calX_requireFlowRows cvX_requireFlowRows mlX_165 hx hb hml hown hts hB hG hK hS (by decide) hsX0 rfl ⟨by decide, by decide⟩ rfl hl.1 rfl (Nat.le_of_ble_eq_true rfl) dX_gate_1 ⟨by decide, by decide⟩ (fun H locs hG hS => ?_)
  refine lv_iload_n hx hb dX_gate_4 rfl (lv_at hl 1 rfl) ?_
  refine g_SvR (As := [.int q]) (rest := []) (kX_requireFlow hA q (by assumption)) calX_requireFlow cvX_requireFlow mlX_156 hx hb hml hown hts hB hG hK hS ⟨by decide, by decide⟩ rfl hl.1 rfl (Nat.le_of_ble_eq_true rfl) dX_gate_5 ⟨by decide, by decide⟩ (fun H locs hG hS => ?_)
  refine lv_aload_n hx hb dX_gate_8 rfl (lv_at hl 0 rfl) ?_
  refine g_get hx hb hts inX hown hK hG 0 (by decide) hsX0 rfl 2 (by decide) lkX_26 rfl dX_gate_9 ?_
  refine lv_sipush (v := 10000) hx hb dX_gate_12 (by decide) ?_
  refine g_ViR (i := 12) (As := [.int 10000]) (rest := []) (kF_flowAt hA ⟨hsF12, hsF13, hsF14⟩ 10000 (by omega) (by omega)) calF_flowAt cvF_flowAt mlX_168 hx hb hml hown hts hB hG hK hS (by decide) hsF12 rfl ⟨by decide, by decide⟩ rfl hl.1 rfl (Nat.le_of_ble_eq_true rfl) dX_gate_15 ⟨by decide, by decide⟩ (fun H locs hG hS => ?_)
  refine lv_iload_n hx hb dX_gate_18 rfl (lv_at hl 1 rfl) ?_
  refine lv_icmp_ge (tgt := 32) hx hb dX_gate_19 (by decide) (fun c1 => ?_) (fun c1 => ?_)
  · refine lv_aload_n hx hb dX_gate_32 rfl (lv_at hl 0 rfl) ?_
    refine g_get hx hb hts inX hown hK hG 0 (by decide) hsX0 rfl 2 (by decide) lkX_26 rfl dX_gate_33 ?_
    refine lv_iload_n hx hb dX_gate_36 rfl (lv_at hl 1 rfl) ?_
    refine g_ViR (i := 12) (As := [.int q]) (rest := []) (kF_leastOpeningFor hA ⟨hsF12, hsF13, hsF14⟩ q (by omega) (by omega)) calF_leastOpeningFor cvF_leastOpeningFor mlX_173 hx hb hml hown hts hB hG hK hS (by decide) hsF12 rfl ⟨by decide, by decide⟩ rfl hl.1 rfl (Nat.le_of_ble_eq_true rfl) dX_gate_37 ⟨by decide, by decide⟩ (fun H locs hG hS => ?_)
    exact g_iret hQ hx hb hr hlk hG hK hS (by decide) (by decide) ⟨by first | rfl | omega | (simp_all; done) | grind, rfl⟩ dX_gate_40
  · exfalso
    first | omega | contradiction | (simp_all; done) | grind

abbrev rmX_gate_f : Room := { frames := 7, cells := 1, slots := 6, locals := 102 }
set_option maxRecDepth 100000 in
set_option maxHeartbeats 4000000 in
theorem kX_gate_f {l : Launch} (hl9 : l.stackTraces = false) {D : va_G} {k : ClassId × ClassId × ClassId} {a : Nat → Nat} {B0 : Nat} {w : Nat → va_E} (hA : gA B0 a) {nf : Nat} {fo : Nat → Int32} {ff : Nat → Int32} (hsX : sX k a w ) (hsF : sF k a w nf fo ff) (q : Int32) (h0 : nf = 0) : xMet l yX_gate cX_gate 2 (some .int) rmX_gate_f D k a B0 w [.ref (a 0), .int q] eISE := by
  have hsX0 := hsX
  obtain ⟨hsF12, hsF13, hsF14⟩ := hsF
  refine x_ofW (by decide) rfl (fun p e s m args below meth c Q hQ htab hx hb hr hlk hml hown hts hB hG hK hS hXS ls hl => ?_)
  have hl : lv_has ls 2 [(0, .ref (a 0)), (1, .int q)] := hl
  have hown : s.vm.findClass RX = some m.cls := hown
  refine lv_aload_n hx hb dX_gate_0 rfl (lv_at hl 0 rfl) ?_
  exact x_VB (i := 0) (As := []) (rest := []) hQ htab hlk (kX_requireFlowRows_b hl9 hA hsX0 ⟨hsF12, hsF13, hsF14⟩ (by omega)) calX_requireFlowRows cvX_requireFlowRows mlX_165 hx hb hml hown hts hB hG hK hS hXS (by decide) hsX0 rfl ⟨by decide, by decide⟩ rfl hl.1 rfl (Nat.le_of_ble_eq_true rfl) dX_gate_1 ⟨by decide, by decide⟩ (by decide) (by decide)

abbrev rmX_gate_z : Room := { frames := 7, cells := 1, slots := 6, locals := 102 }
set_option maxRecDepth 100000 in
set_option maxHeartbeats 4000000 in
theorem kX_gate_z {l : Launch} (hl9 : l.stackTraces = false) {D : va_G} {k : ClassId × ClassId × ClassId} {a : Nat → Nat} {B0 : Nat} {w : Nat → va_E} (hA : gA B0 a) {nf : Nat} {fo : Nat → Int32} {ff : Nat → Int32} (hsX : sX k a w ) (hsF : sF k a w nf fo ff) (q : Int32) (h0 : 0 < nf) (hn : nf ≤ 8) (h1 : ¬ flR q) : xMet l yX_gate cX_gate 2 (some .int) rmX_gate_z D k a B0 w [.ref (a 0), .int q] eIAE := by
  have hsX0 := hsX
  obtain ⟨hsF12, hsF13, hsF14⟩ := hsF
  refine x_ofW (by decide) rfl (fun p e s m args below meth c Q hQ htab hx hb hr hlk hml hown hts hB hG hK hS hXS ls hl => ?_)
  have hl : lv_has ls 2 [(0, .ref (a 0)), (1, .int q)] := hl
  have hown : s.vm.findClass RX = some m.cls := hown
  refine lv_aload_n hx hb dX_gate_0 rfl (lv_at hl 0 rfl) ?_
  refine g_VvR (i := 0) (As := []) (rest := []) (kX_requireFlowRows hA hsX0 ⟨hsF12, hsF13, hsF14⟩ (by omega) (by omega)) calX_requireFlowRows cvX_requireFlowRows mlX_165 hx hb hml hown hts hB hG hK hS (by decide) hsX0 rfl ⟨by decide, by decide⟩ rfl hl.1 rfl (Nat.le_of_ble_eq_true rfl) dX_gate_1 ⟨by decide, by decide⟩ (fun H locs hG hS => ?_)
  refine lv_iload_n hx hb dX_gate_4 rfl (lv_at hl 1 rfl) ?_
  exact x_SB (As := [.int q]) (rest := []) hQ htab hlk (kX_requireFlow_b hl9 hA q (by assumption)) calX_requireFlow cvX_requireFlow mlX_156 hx hb hml hown hts hB hG hK hS hXS ⟨by decide, by decide⟩ rfl hl.1 rfl (Nat.le_of_ble_eq_true rfl) dX_gate_5 ⟨by decide, by decide⟩ (by decide) (by decide)

abbrev rmX_gate_m : Room := { frames := 7, cells := 1, slots := 6, locals := 102 }
set_option maxRecDepth 100000 in
set_option maxHeartbeats 4000000 in
theorem kX_gate_m {l : Launch} (hl9 : l.stackTraces = false) {D : va_G} {k : ClassId × ClassId × ClassId} {a : Nat → Nat} {B0 : Nat} {w : Nat → va_E} (hA : gA B0 a) {nf : Nat} {fo : Nat → Int32} {ff : Nat → Int32} (hsX : sX k a w ) (hsF : sF k a w nf fo ff) (q : Int32) (h0 : 0 < nf) (hn : nf ≤ 8) (h1 : flR q) (hm : ¬ q ≤ flAt fo ff nf 10000) : xMet l yX_gate cX_gate 2 (some .int) rmX_gate_m D k a B0 w [.ref (a 0), .int q] eUOE := by
  have hsX0 := hsX
  obtain ⟨hsF12, hsF13, hsF14⟩ := hsF
  refine x_ofW (by decide) rfl (fun p e s m args below meth c Q hQ htab hx hb hr hlk hml hown hts hB hG hK hS hXS ls hl => ?_)
  have hl : lv_has ls 2 [(0, .ref (a 0)), (1, .int q)] := hl
  have hown : s.vm.findClass RX = some m.cls := hown
  refine lv_aload_n hx hb dX_gate_0 rfl (lv_at hl 0 rfl) ?_
  refine g_VvR (i := 0) (As := []) (rest := []) (kX_requireFlowRows hA hsX0 ⟨hsF12, hsF13, hsF14⟩ (by omega) (by omega)) calX_requireFlowRows cvX_requireFlowRows mlX_165 hx hb hml hown hts hB hG hK hS (by decide) hsX0 rfl ⟨by decide, by decide⟩ rfl hl.1 rfl (Nat.le_of_ble_eq_true rfl) dX_gate_1 ⟨by decide, by decide⟩ (fun H locs hG hS => ?_)
  refine lv_iload_n hx hb dX_gate_4 rfl (lv_at hl 1 rfl) ?_
  refine g_SvR (As := [.int q]) (rest := []) (kX_requireFlow hA q (by assumption)) calX_requireFlow cvX_requireFlow mlX_156 hx hb hml hown hts hB hG hK hS ⟨by decide, by decide⟩ rfl hl.1 rfl (Nat.le_of_ble_eq_true rfl) dX_gate_5 ⟨by decide, by decide⟩ (fun H locs hG hS => ?_)
  refine lv_aload_n hx hb dX_gate_8 rfl (lv_at hl 0 rfl) ?_
  refine g_get hx hb hts inX hown hK hG 0 (by decide) hsX0 rfl 2 (by decide) lkX_26 rfl dX_gate_9 ?_
  refine lv_sipush (v := 10000) hx hb dX_gate_12 (by decide) ?_
  refine g_ViR (i := 12) (As := [.int 10000]) (rest := []) (kF_flowAt hA ⟨hsF12, hsF13, hsF14⟩ 10000 (by omega) (by omega)) calF_flowAt cvF_flowAt mlX_168 hx hb hml hown hts hB hG hK hS (by decide) hsF12 rfl ⟨by decide, by decide⟩ rfl hl.1 rfl (Nat.le_of_ble_eq_true rfl) dX_gate_15 ⟨by decide, by decide⟩ (fun H locs hG hS => ?_)
  refine lv_iload_n hx hb dX_gate_18 rfl (lv_at hl 1 rfl) ?_
  refine lv_icmp_ge (tgt := 32) hx hb dX_gate_19 (by decide) (fun c1 => ?_) (fun c1 => ?_)
  · exact absurd c1 hm
  · exact x_throw hQ hl9 xok_eUOE (show ((171 : Nat), "no opening lets so much through") ∈ xStr by decide +kernel) hx hb hml hown hts hG hK hS hXS hlk htab hl.1 dX_gate_22 dX_gate_25 dX_gate_26 dX_gate_28 dX_gate_31 (by decide) (by decide) (by decide) (by decide) (by decide) (by decide)

abbrev rmX_pattern : Room := { frames := 1, cells := 0, slots := 0, locals := 20 }
set_option maxRecDepth 100000 in
set_option maxHeartbeats 4000000 in
theorem kX_pattern {l : Launch} {D : va_G} {k : ClassId × ClassId × ClassId} {a : Nat → Nat} {B0 : Nat} {w : Nat → va_E} (hA : gA B0 a)  (x : Int32) (y : Int32) (h1 : szR x) (h2 : rngI y 0 100) : Met l yX_pattern (tbw yX_pattern cX_pattern 3 (some .int)) rmX_pattern (gPc D k a B0 w [.ref (a 0), .int x, .int y]) (va_Qi (roP ((x * (1000 + y) + 999) / 1000) w) (gB D k a) (gF B0)) 0 0 (gF B0) := by
  refine g_ofW (by decide) rfl (fun p e s m args below meth c Q hQ hx hb hr hlk hml hown hts hB hG hK hS ls hl => ?_)
  have hl : lv_has ls 3 [(0, .ref (a 0)), (1, .int x), (2, .int y)] := hl
  have hown : s.vm.findClass RX = some m.cls := hown
  refine lv_iload_n hx hb dX_pattern_0 rfl (lv_at hl 1 rfl) ?_
  refine g_SvR (As := [.int x]) (rest := []) (kX_requireSize hA x (by assumption)) calX_requireSize cvX_requireSize mlX_40 hx hb hml hown hts hB hG hK hS ⟨by decide, by decide⟩ rfl hl.1 rfl (Nat.le_of_ble_eq_true rfl) dX_pattern_1 ⟨by decide, by decide⟩ (fun H locs hG hS => ?_)
  refine lv_iload_n hx hb dX_pattern_4 rfl (lv_at hl 2 rfl) ?_
  refine lv_if_lt (tgt := 14) hx hb dX_pattern_5 (by decide) (fun c1 => ?_) (fun c1 => ?_)
  · exfalso
    first | exact absurd (by assumption) h2.1 | exact absurd (Int32.not_le.mp (by assumption)) h2.2
  · refine lv_iload_n hx hb dX_pattern_8 rfl (lv_at hl 2 rfl) ?_
    refine lv_bipush (v := 100) hx hb dX_pattern_9 (by decide) ?_
    refine lv_icmp_le (tgt := 24) hx hb dX_pattern_11 (by decide) (fun c2 => ?_) (fun c2 => ?_)
    · refine lv_iload_n hx hb dX_pattern_24 rfl (lv_at hl 1 rfl) ?_
      refine lv_sipush (v := 1000) hx hb dX_pattern_25 (by decide) ?_
      refine lv_iload_n hx hb dX_pattern_28 rfl (lv_at hl 2 rfl) ?_
      refine lv_iadd hx hb dX_pattern_29 ?_
      refine lv_imul hx hb dX_pattern_30 ?_
      refine lv_sipush (v := 999) hx hb dX_pattern_31 (by decide) ?_
      refine lv_iadd hx hb dX_pattern_34 ?_
      refine lv_sipush (v := 1000) hx hb dX_pattern_35 (by decide) ?_
      refine lv_idiv hx hb dX_pattern_38 (by decide) ?_
      exact g_iret hQ hx hb hr hlk hG hK hS (by decide) (by decide) ⟨by first | rfl | omega | (simp_all; done) | grind, rfl⟩ dX_pattern_39
    · exfalso
      first | exact absurd (by assumption) h2.1 | exact absurd (Int32.not_le.mp (by assumption)) h2.2

abbrev rmX_pattern_z : Room := { frames := 7, cells := 1, slots := 6, locals := 102 }
set_option maxRecDepth 100000 in
set_option maxHeartbeats 4000000 in
theorem kX_pattern_z {l : Launch} (hl9 : l.stackTraces = false) {D : va_G} {k : ClassId × ClassId × ClassId} {a : Nat → Nat} {B0 : Nat} {w : Nat → va_E} (hA : gA B0 a) (x : Int32) (y : Int32) (hz : ¬ (szR x ∧ rngI y 0 100)) : xMet l yX_pattern cX_pattern 3 (some .int) rmX_pattern_z D k a B0 w [.ref (a 0), .int x, .int y] eIAE := by
  refine x_ofW (by decide) rfl (fun p e s m args below meth c Q hQ htab hx hb hr hlk hml hown hts hB hG hK hS hXS ls hl => ?_)
  have hl : lv_has ls 3 [(0, .ref (a 0)), (1, .int x), (2, .int y)] := hl
  have hown : s.vm.findClass RX = some m.cls := hown
  refine lv_iload_n hx hb dX_pattern_0 rfl (lv_at hl 1 rfl) ?_
  by_cases hs1 : szR x
  · refine g_SvR (As := [.int x]) (rest := []) (kX_requireSize hA x (by assumption)) calX_requireSize cvX_requireSize mlX_40 hx hb hml hown hts hB hG hK hS ⟨by decide, by decide⟩ rfl hl.1 rfl (Nat.le_of_ble_eq_true rfl) dX_pattern_1 ⟨by decide, by decide⟩ (fun H locs hG hS => ?_)
    refine lv_iload_n hx hb dX_pattern_4 rfl (lv_at hl 2 rfl) ?_
    refine lv_if_lt (tgt := 14) hx hb dX_pattern_5 (by decide) (fun c2 => ?_) (fun c2 => ?_)
    · exact x_throw hQ hl9 xok_eIAE (show ((176 : Nat), "a shrinkage is 0 to 100 thousandths") ∈ xStr by decide +kernel) hx hb hml hown hts hG hK hS hXS hlk htab hl.1 dX_pattern_14 dX_pattern_17 dX_pattern_18 dX_pattern_20 dX_pattern_23 (by decide) (by decide) (by decide) (by decide) (by decide) (by decide)
    · refine lv_iload_n hx hb dX_pattern_8 rfl (lv_at hl 2 rfl) ?_
      refine lv_bipush (v := 100) hx hb dX_pattern_9 (by decide) ?_
      refine lv_icmp_le (tgt := 24) hx hb dX_pattern_11 (by decide) (fun c3 => ?_) (fun c3 => ?_)
      · exact absurd ⟨by assumption, by assumption, Int32.not_lt.mpr (by assumption)⟩ hz
      · exact x_throw hQ hl9 xok_eIAE (show ((176 : Nat), "a shrinkage is 0 to 100 thousandths") ∈ xStr by decide +kernel) hx hb hml hown hts hG hK hS hXS hlk htab hl.1 dX_pattern_14 dX_pattern_17 dX_pattern_18 dX_pattern_20 dX_pattern_23 (by decide) (by decide) (by decide) (by decide) (by decide) (by decide)
  · exact x_SB (As := [.int x]) (rest := []) hQ htab hlk (kX_requireSize_b hl9 hA x (by assumption)) calX_requireSize cvX_requireSize mlX_40 hx hb hml hown hts hB hG hK hS hXS ⟨by decide, by decide⟩ rfl hl.1 rfl (Nat.le_of_ble_eq_true rfl) dX_pattern_1 ⟨by decide, by decide⟩ (by decide) (by decide)

abbrev rmX_molding : Room := { frames := 1, cells := 0, slots := 0, locals := 22 }
set_option maxRecDepth 100000 in
set_option maxHeartbeats 4000000 in
theorem kX_molding {l : Launch} {D : va_G} {k : ClassId × ClassId × ClassId} {a : Nat → Nat} {B0 : Nat} {w : Nat → va_E} (hA : gA B0 a) {bw : Int32} {bd : Int32} {bu : Int32} {nt : Nat} {ns : Nat} {tw : Nat → Int32} {td : Nat → Int32} {sb : Nat → Int32} {sd : Nat → Int32} {su : Nat → Int32} (hsX : sX k a w ) (hsM : sM k a w bw bd bu nt ns tw td sb sd su) (x : Int32) (y : Int32) (h1 : wdR x) (h2 : wdR y) : Met l yX_molding (tbw yX_molding cX_molding 3 none) rmX_molding (gPc D k a B0 w [.ref (a 0), .int x, .int y]) (va_Qv (fun w1 => (sM k a w1 x y 0 0 0 tw td sb sd su) ∧ ∀ z, z < 15 ∨ 20 < z → w1 z = w z) (gB D k a) (gF B0)) 0 0 (gF B0) := by
  have hsX0 := hsX
  obtain ⟨hsM15, hsM16, hsM17, hsM18, hsM19, hsM20⟩ := hsM
  refine g_ofW (by decide) rfl (fun p e s m args below meth c Q hQ hx hb hr hlk hml hown hts hB hG hK hS ls hl => ?_)
  have hl : lv_has ls 3 [(0, .ref (a 0)), (1, .int x), (2, .int y)] := hl
  have hown : s.vm.findClass RX = some m.cls := hown
  have hfr0 : ∀ z, z < 15 ∨ 20 < z → w z = w z := fun _ _ => rfl
  refine lv_iload_n hx hb dX_molding_0 rfl (lv_at hl 1 rfl) ?_
  refine g_SvR (As := [.int x]) (rest := []) (kX_requireMoldingSize hA x (by assumption)) calX_requireMoldingSize cvX_requireMoldingSize mlX_178 hx hb hml hown hts hB hG hK hS ⟨by decide, by decide⟩ rfl hl.1 rfl (Nat.le_of_ble_eq_true rfl) dX_molding_1 ⟨by decide, by decide⟩ (fun H locs hG hS => ?_)
  refine lv_iload_n hx hb dX_molding_4 rfl (lv_at hl 2 rfl) ?_
  refine g_SvR (As := [.int y]) (rest := []) (kX_requireMoldingSize hA y (by assumption)) calX_requireMoldingSize cvX_requireMoldingSize mlX_178 hx hb hml hown hts hB hG hK hS ⟨by decide, by decide⟩ rfl hl.1 rfl (Nat.le_of_ble_eq_true rfl) dX_molding_5 ⟨by decide, by decide⟩ (fun H locs hG hS => ?_)
  refine lv_aload_n hx hb dX_molding_8 rfl (lv_at hl 0 rfl) ?_
  refine g_get hx hb hts inX hown hK hG 0 (by decide) hsX0 rfl 3 (by decide) lkX_33 rfl dX_molding_9 ?_
  refine lv_iload_n hx hb dX_molding_12 rfl (lv_at hl 1 rfl) ?_
  refine lv_iload_n hx hb dX_molding_13 rfl (lv_at hl 2 rfl) ?_
  refine g_Vv (i := 15) (As := [.int x, .int y]) (rest := []) (kM_clearTo hA ⟨hsM15, hsM16, hsM17, hsM18, hsM19, hsM20⟩ x y) calM_clearTo cvM_clearTo mlX_181 hx hb hml hown hts hB hG hK hS (by decide) hsM15 rfl ⟨by decide, by decide⟩ rfl hl.1 rfl (Nat.le_of_ble_eq_true rfl) dX_molding_14 ⟨by decide, by decide⟩ (fun w2 H locs hp3 hG hS => ?_)
  obtain ⟨⟨h4, h5, h6, h7, h8, h9⟩, hfr11⟩ := hp3
  have h12 : w2 0 = .inr (0, [.ref (a 1), .ref (a 9), .ref (a 12), .ref (a 15)]) := (hfr11 0 (by omega)).trans hsX0
  have hfr13 : ∀ z, z < 15 ∨ 20 < z → w2 z = w z := fun z hz => (hfr11 z (by omega)).trans (hfr0 z hz)
  exact g_vret hQ hx hb hr hlk hG hK hS (by decide) (by decide) ⟨⟨h4, h5, h6, h7, h8, h9⟩, hfr13⟩ dX_molding_17

abbrev rmX_molding_z : Room := { frames := 7, cells := 1, slots := 6, locals := 102 }
set_option maxRecDepth 100000 in
set_option maxHeartbeats 4000000 in
theorem kX_molding_z {l : Launch} (hl9 : l.stackTraces = false) {D : va_G} {k : ClassId × ClassId × ClassId} {a : Nat → Nat} {B0 : Nat} {w : Nat → va_E} (hA : gA B0 a) {bw : Int32} {bd : Int32} {bu : Int32} {nt : Nat} {ns : Nat} {tw : Nat → Int32} {td : Nat → Int32} {sb : Nat → Int32} {sd : Nat → Int32} {su : Nat → Int32} (hsX : sX k a w ) (hsM : sM k a w bw bd bu nt ns tw td sb sd su) (x : Int32) (y : Int32) (hz : ¬ (wdR x ∧ wdR y)) : xMet l yX_molding cX_molding 3 none rmX_molding_z D k a B0 w [.ref (a 0), .int x, .int y] eIAE := by
  have hsX0 := hsX
  obtain ⟨hsM15, hsM16, hsM17, hsM18, hsM19, hsM20⟩ := hsM
  refine x_ofW (by decide) rfl (fun p e s m args below meth c Q hQ htab hx hb hr hlk hml hown hts hB hG hK hS hXS ls hl => ?_)
  have hl : lv_has ls 3 [(0, .ref (a 0)), (1, .int x), (2, .int y)] := hl
  have hown : s.vm.findClass RX = some m.cls := hown
  refine lv_iload_n hx hb dX_molding_0 rfl (lv_at hl 1 rfl) ?_
  by_cases hs1 : wdR x
  · refine g_SvR (As := [.int x]) (rest := []) (kX_requireMoldingSize hA x (by assumption)) calX_requireMoldingSize cvX_requireMoldingSize mlX_178 hx hb hml hown hts hB hG hK hS ⟨by decide, by decide⟩ rfl hl.1 rfl (Nat.le_of_ble_eq_true rfl) dX_molding_1 ⟨by decide, by decide⟩ (fun H locs hG hS => ?_)
    refine lv_iload_n hx hb dX_molding_4 rfl (lv_at hl 2 rfl) ?_
    by_cases hs2 : wdR y
    · refine g_SvR (As := [.int y]) (rest := []) (kX_requireMoldingSize hA y (by assumption)) calX_requireMoldingSize cvX_requireMoldingSize mlX_178 hx hb hml hown hts hB hG hK hS ⟨by decide, by decide⟩ rfl hl.1 rfl (Nat.le_of_ble_eq_true rfl) dX_molding_5 ⟨by decide, by decide⟩ (fun H locs hG hS => ?_)
      exact absurd ⟨by assumption, by assumption⟩ hz
    · exact x_SB (As := [.int y]) (rest := []) hQ htab hlk (kX_requireMoldingSize_b hl9 hA y (by assumption)) calX_requireMoldingSize cvX_requireMoldingSize mlX_178 hx hb hml hown hts hB hG hK hS hXS ⟨by decide, by decide⟩ rfl hl.1 rfl (Nat.le_of_ble_eq_true rfl) dX_molding_5 ⟨by decide, by decide⟩ (by decide) (by decide)
  · exact x_SB (As := [.int x]) (rest := []) hQ htab hlk (kX_requireMoldingSize_b hl9 hA x (by assumption)) calX_requireMoldingSize cvX_requireMoldingSize mlX_178 hx hb hml hown hts hB hG hK hS hXS ⟨by decide, by decide⟩ rfl hl.1 rfl (Nat.le_of_ble_eq_true rfl) dX_molding_1 ⟨by decide, by decide⟩ (by decide) (by decide)

abbrev rmX_pack_o : Room := { frames := 2, cells := 0, slots := 0, locals := 45 }
set_option maxRecDepth 100000 in
set_option maxHeartbeats 4000000 in
theorem kX_pack_o {l : Launch} {D : va_G} {k : ClassId × ClassId × ClassId} {a : Nat → Nat} {B0 : Nat} {w : Nat → va_E} (hA : gA B0 a) {bw : Int32} {bd : Int32} {bu : Int32} {nt : Nat} {ns : Nat} {tw : Nat → Int32} {td : Nat → Int32} {sb : Nat → Int32} {sd : Nat → Int32} {su : Nat → Int32} (hsX : sX k a w ) (hsM : sM k a w bw bd bu nt ns tw td sb sd su) (x : Int32) (y : Int32) (i : Nat) (hi : i < ns) (hns : ns ≤ nt) (hnt : nt < 40) (h1 : wdR x) (h2 : wdR y) (hsh : shF bw bd bu ns sd su x y ns 0 = nI i) : Met l yX_pack (tbw yX_pack cX_pack 4 (some .int)) rmX_pack_o (gPc D k a B0 w [.ref (a 0), .int x, .int y]) (va_Qi (fun r w1 => r = (nI nt) ∧ (sM k a w1 bw bd bu (nt + 1) ns (upd tw nt (su i)) (upd td nt (sb i)) sb sd (upd su i (su i + x))) ∧ ∀ z, z < 15 ∨ 20 < z → w1 z = w z) (gB D k a) (gF B0)) 0 0 (gF B0) := by
  have hsX0 := hsX
  obtain ⟨hsM15, hsM16, hsM17, hsM18, hsM19, hsM20⟩ := hsM
  refine g_ofW (by decide) rfl (fun p e s m args below meth c Q hQ hx hb hr hlk hml hown hts hB hG hK hS ls hl => ?_)
  have hl : lv_has ls 4 [(0, .ref (a 0)), (1, .int x), (2, .int y)] := hl
  have hown : s.vm.findClass RX = some m.cls := hown
  have hfr0 : ∀ z, z < 15 ∨ 20 < z → w z = w z := fun _ _ => rfl
  refine lv_aload_n hx hb dX_pack_0 rfl (lv_at hl 0 rfl) ?_
  refine g_get hx hb hts inX hown hK hG 0 (by decide) hsX0 rfl 3 (by decide) lkX_33 rfl dX_pack_1 ?_
  refine g_ViR (i := 15) (As := []) (rest := []) (kM_isFull hA ⟨hsM15, hsM16, hsM17, hsM18, hsM19, hsM20⟩ (by omega)) calM_isFull cvM_isFull mlX_184 hx hb hml hown hts hB hG hK hS (by decide) hsM15 rfl ⟨by decide, by decide⟩ rfl hl.1 rfl (Nat.le_of_ble_eq_true rfl) dX_pack_4 ⟨by decide, by decide⟩ (fun H locs hG hS => ?_)
  refine lb_if_eq (tgt := 20) hx hb dX_pack_7 (by decide) (fun c1 => ?_) (fun c1 => ?_)
  · refine lv_iload_n hx hb dX_pack_20 rfl (lv_at hl 1 rfl) ?_
    refine g_SvR (As := [.int x]) (rest := []) (kX_requireMoldingSize hA x (by assumption)) calX_requireMoldingSize cvX_requireMoldingSize mlX_178 hx hb hml hown hts hB hG hK hS ⟨by decide, by decide⟩ rfl hl.1 rfl (Nat.le_of_ble_eq_true rfl) dX_pack_21 ⟨by decide, by decide⟩ (fun H locs hG hS => ?_)
    refine lv_iload_n hx hb dX_pack_24 rfl (lv_at hl 2 rfl) ?_
    refine g_SvR (As := [.int y]) (rest := []) (kX_requireMoldingSize hA y (by assumption)) calX_requireMoldingSize cvX_requireMoldingSize mlX_178 hx hb hml hown hts hB hG hK hS ⟨by decide, by decide⟩ rfl hl.1 rfl (Nat.le_of_ble_eq_true rfl) dX_pack_25 ⟨by decide, by decide⟩ (fun H locs hG hS => ?_)
    refine lv_aload_n hx hb dX_pack_28 rfl (lv_at hl 0 rfl) ?_
    refine g_get hx hb hts inX hown hK hG 0 (by decide) hsX0 rfl 3 (by decide) lkX_33 rfl dX_pack_29 ?_
    refine lv_iload_n hx hb dX_pack_32 rfl (lv_at hl 1 rfl) ?_
    refine lv_iload_n hx hb dX_pack_33 rfl (lv_at hl 2 rfl) ?_
    refine g_ViR (i := 15) (As := [.int x, .int y]) (rest := []) (kM_shelfFor hA ⟨hsM15, hsM16, hsM17, hsM18, hsM19, hsM20⟩ x y (by omega)) calM_shelfFor cvM_shelfFor mlX_187 hx hb hml hown hts hB hG hK hS (by decide) hsM15 rfl ⟨by decide, by decide⟩ rfl hl.1 rfl (Nat.le_of_ble_eq_true rfl) dX_pack_34 ⟨by decide, by decide⟩ (fun H locs hG hS => ?_)
    rw [hsh]
    refine lv_istore_n (lv' := [(3, .int (nI i)), (0, .ref (a 0)), (1, .int x), (2, .int y)]) hx hb dX_pack_37 rfl hl (by decide) rfl (fun ls hl => ?_)
    refine lv_iload_n hx hb dX_pack_38 rfl (lv_at hl 0 rfl) ?_
    refine lv_iconst (v := (-1)) hx hb dX_pack_39 (by decide) ?_
    refine lv_icmp_ne (tgt := 53) hx hb dX_pack_40 (by decide) (fun c2 => ?_) (fun c2 => ?_)
    · refine lv_aload_n hx hb dX_pack_53 rfl (lv_at hl 1 rfl) ?_
      refine g_get hx hb hts inX hown hK hG 0 (by decide) hsX0 rfl 3 (by decide) lkX_33 rfl dX_pack_54 ?_
      refine lv_iload_n hx hb dX_pack_57 rfl (lv_at hl 0 rfl) ?_
      refine lv_iload_n hx hb dX_pack_58 rfl (lv_at hl 2 rfl) ?_
      refine lv_iload_n hx hb dX_pack_59 rfl (lv_at hl 3 rfl) ?_
      refine g_Vi (i := 15) (As := [.int (nI i), .int x, .int y]) (rest := []) (kM_putOn_o hA ⟨hsM15, hsM16, hsM17, hsM18, hsM19, hsM20⟩ i x y (by omega) (by omega) (by omega)) calM_putOn cvM_putOn mlX_192 hx hb hml hown hts hB hG hK hS (by decide) hsM15 rfl ⟨by decide, by decide⟩ rfl hl.1 rfl (Nat.le_of_ble_eq_true rfl) dX_pack_60 ⟨by decide, by decide⟩ (fun r3 w4 H locs hp5 hG hS => ?_)
      obtain ⟨er12, ⟨h6, h7, h8, h9, h10, h11⟩, hfr13⟩ := hp5
      have h14 : w4 0 = .inr (0, [.ref (a 1), .ref (a 9), .ref (a 12), .ref (a 15)]) := (hfr13 0 (by omega)).trans hsX0
      have hfr15 : ∀ z, z < 15 ∨ 20 < z → w4 z = w z := fun z hz => (hfr13 z (by omega)).trans (hfr0 z hz)
      rw [er12]
      exact g_iret hQ hx hb hr hlk hG hK hS (by decide) (by decide) ⟨by first | rfl | omega | (simp_all; done) | grind, ⟨h6, h7, h8, h9, h10, h11⟩, hfr15⟩ dX_pack_63
    · exfalso
      exact absurd (by assumption) (nI_nm1 (i := i) (by omega))
  · exfalso
    first | omega | contradiction | (simp_all; done) | grind

abbrev rmX_pack_n : Room := { frames := 2, cells := 0, slots := 0, locals := 45 }
set_option maxRecDepth 100000 in
set_option maxHeartbeats 4000000 in
theorem kX_pack_n {l : Launch} {D : va_G} {k : ClassId × ClassId × ClassId} {a : Nat → Nat} {B0 : Nat} {w : Nat → va_E} (hA : gA B0 a) {bw : Int32} {bd : Int32} {bu : Int32} {nt : Nat} {ns : Nat} {tw : Nat → Int32} {td : Nat → Int32} {sb : Nat → Int32} {sd : Nat → Int32} {su : Nat → Int32} (hsX : sX k a w ) (hsM : sM k a w bw bd bu nt ns tw td sb sd su) (x : Int32) (y : Int32) (hns : ns ≤ nt) (hnt : nt < 40) (h1 : wdR x) (h2 : wdR y) (hsh : shF bw bd bu ns sd su x y ns 0 = nI ns) : Met l yX_pack (tbw yX_pack cX_pack 4 (some .int)) rmX_pack_n (gPc D k a B0 w [.ref (a 0), .int x, .int y]) (va_Qi (fun r w1 => r = (nI nt) ∧ (sM k a w1 bw bd (bu + y) (nt + 1) (ns + 1) (upd tw nt (upd su ns 0 ns)) (upd td nt (upd sb ns bu ns)) (upd sb ns bu) (upd sd ns y) (upd (upd su ns 0) ns (upd su ns 0 ns + x))) ∧ ∀ z, z < 15 ∨ 20 < z → w1 z = w z) (gB D k a) (gF B0)) 0 0 (gF B0) := by
  have hsX0 := hsX
  obtain ⟨hsM15, hsM16, hsM17, hsM18, hsM19, hsM20⟩ := hsM
  refine g_ofW (by decide) rfl (fun p e s m args below meth c Q hQ hx hb hr hlk hml hown hts hB hG hK hS ls hl => ?_)
  have hl : lv_has ls 4 [(0, .ref (a 0)), (1, .int x), (2, .int y)] := hl
  have hown : s.vm.findClass RX = some m.cls := hown
  have hfr0 : ∀ z, z < 15 ∨ 20 < z → w z = w z := fun _ _ => rfl
  refine lv_aload_n hx hb dX_pack_0 rfl (lv_at hl 0 rfl) ?_
  refine g_get hx hb hts inX hown hK hG 0 (by decide) hsX0 rfl 3 (by decide) lkX_33 rfl dX_pack_1 ?_
  refine g_ViR (i := 15) (As := []) (rest := []) (kM_isFull hA ⟨hsM15, hsM16, hsM17, hsM18, hsM19, hsM20⟩ (by omega)) calM_isFull cvM_isFull mlX_184 hx hb hml hown hts hB hG hK hS (by decide) hsM15 rfl ⟨by decide, by decide⟩ rfl hl.1 rfl (Nat.le_of_ble_eq_true rfl) dX_pack_4 ⟨by decide, by decide⟩ (fun H locs hG hS => ?_)
  refine lb_if_eq (tgt := 20) hx hb dX_pack_7 (by decide) (fun c1 => ?_) (fun c1 => ?_)
  · refine lv_iload_n hx hb dX_pack_20 rfl (lv_at hl 1 rfl) ?_
    refine g_SvR (As := [.int x]) (rest := []) (kX_requireMoldingSize hA x (by assumption)) calX_requireMoldingSize cvX_requireMoldingSize mlX_178 hx hb hml hown hts hB hG hK hS ⟨by decide, by decide⟩ rfl hl.1 rfl (Nat.le_of_ble_eq_true rfl) dX_pack_21 ⟨by decide, by decide⟩ (fun H locs hG hS => ?_)
    refine lv_iload_n hx hb dX_pack_24 rfl (lv_at hl 2 rfl) ?_
    refine g_SvR (As := [.int y]) (rest := []) (kX_requireMoldingSize hA y (by assumption)) calX_requireMoldingSize cvX_requireMoldingSize mlX_178 hx hb hml hown hts hB hG hK hS ⟨by decide, by decide⟩ rfl hl.1 rfl (Nat.le_of_ble_eq_true rfl) dX_pack_25 ⟨by decide, by decide⟩ (fun H locs hG hS => ?_)
    refine lv_aload_n hx hb dX_pack_28 rfl (lv_at hl 0 rfl) ?_
    refine g_get hx hb hts inX hown hK hG 0 (by decide) hsX0 rfl 3 (by decide) lkX_33 rfl dX_pack_29 ?_
    refine lv_iload_n hx hb dX_pack_32 rfl (lv_at hl 1 rfl) ?_
    refine lv_iload_n hx hb dX_pack_33 rfl (lv_at hl 2 rfl) ?_
    refine g_ViR (i := 15) (As := [.int x, .int y]) (rest := []) (kM_shelfFor hA ⟨hsM15, hsM16, hsM17, hsM18, hsM19, hsM20⟩ x y (by omega)) calM_shelfFor cvM_shelfFor mlX_187 hx hb hml hown hts hB hG hK hS (by decide) hsM15 rfl ⟨by decide, by decide⟩ rfl hl.1 rfl (Nat.le_of_ble_eq_true rfl) dX_pack_34 ⟨by decide, by decide⟩ (fun H locs hG hS => ?_)
    rw [hsh]
    refine lv_istore_n (lv' := [(3, .int (nI ns)), (0, .ref (a 0)), (1, .int x), (2, .int y)]) hx hb dX_pack_37 rfl hl (by decide) rfl (fun ls hl => ?_)
    refine lv_iload_n hx hb dX_pack_38 rfl (lv_at hl 0 rfl) ?_
    refine lv_iconst (v := (-1)) hx hb dX_pack_39 (by decide) ?_
    refine lv_icmp_ne (tgt := 53) hx hb dX_pack_40 (by decide) (fun c2 => ?_) (fun c2 => ?_)
    · refine lv_aload_n hx hb dX_pack_53 rfl (lv_at hl 1 rfl) ?_
      refine g_get hx hb hts inX hown hK hG 0 (by decide) hsX0 rfl 3 (by decide) lkX_33 rfl dX_pack_54 ?_
      refine lv_iload_n hx hb dX_pack_57 rfl (lv_at hl 0 rfl) ?_
      refine lv_iload_n hx hb dX_pack_58 rfl (lv_at hl 2 rfl) ?_
      refine lv_iload_n hx hb dX_pack_59 rfl (lv_at hl 3 rfl) ?_
      refine g_Vi (i := 15) (As := [.int (nI ns), .int x, .int y]) (rest := []) (kM_putOn_n hA ⟨hsM15, hsM16, hsM17, hsM18, hsM19, hsM20⟩ ns x y (by omega) (by omega) (by omega)) calM_putOn cvM_putOn mlX_192 hx hb hml hown hts hB hG hK hS (by decide) hsM15 rfl ⟨by decide, by decide⟩ rfl hl.1 rfl (Nat.le_of_ble_eq_true rfl) dX_pack_60 ⟨by decide, by decide⟩ (fun r3 w4 H locs hp5 hG hS => ?_)
      obtain ⟨er12, ⟨h6, h7, h8, h9, h10, h11⟩, hfr13⟩ := hp5
      have h14 : w4 0 = .inr (0, [.ref (a 1), .ref (a 9), .ref (a 12), .ref (a 15)]) := (hfr13 0 (by omega)).trans hsX0
      have hfr15 : ∀ z, z < 15 ∨ 20 < z → w4 z = w z := fun z hz => (hfr13 z (by omega)).trans (hfr0 z hz)
      rw [er12]
      exact g_iret hQ hx hb hr hlk hG hK hS (by decide) (by decide) ⟨by first | rfl | omega | (simp_all; done) | grind, ⟨h6, h7, h8, h9, h10, h11⟩, hfr15⟩ dX_pack_63
    · exfalso
      exact absurd (by assumption) (nI_nm1 (i := ns) (by omega))
  · exfalso
    first | omega | contradiction | (simp_all; done) | grind

abbrev rmX_pack_f : Room := { frames := 7, cells := 1, slots := 6, locals := 102 }
set_option maxRecDepth 100000 in
set_option maxHeartbeats 4000000 in
theorem kX_pack_f {l : Launch} (hl9 : l.stackTraces = false) {D : va_G} {k : ClassId × ClassId × ClassId} {a : Nat → Nat} {B0 : Nat} {w : Nat → va_E} (hA : gA B0 a) {bw : Int32} {bd : Int32} {bu : Int32} {nt : Nat} {ns : Nat} {tw : Nat → Int32} {td : Nat → Int32} {sb : Nat → Int32} {sd : Nat → Int32} {su : Nat → Int32} (hsX : sX k a w ) (hsM : sM k a w bw bd bu nt ns tw td sb sd su) (x : Int32) (y : Int32) (hnt : nt = 40) : xMet l yX_pack cX_pack 4 (some .int) rmX_pack_f D k a B0 w [.ref (a 0), .int x, .int y] eISE := by
  have hsX0 := hsX
  obtain ⟨hsM15, hsM16, hsM17, hsM18, hsM19, hsM20⟩ := hsM
  refine x_ofW (by decide) rfl (fun p e s m args below meth c Q hQ htab hx hb hr hlk hml hown hts hB hG hK hS hXS ls hl => ?_)
  have hl : lv_has ls 4 [(0, .ref (a 0)), (1, .int x), (2, .int y)] := hl
  have hown : s.vm.findClass RX = some m.cls := hown
  refine lv_aload_n hx hb dX_pack_0 rfl (lv_at hl 0 rfl) ?_
  refine g_get hx hb hts inX hown hK hG 0 (by decide) hsX0 rfl 3 (by decide) lkX_33 rfl dX_pack_1 ?_
  refine g_ViR (i := 15) (As := []) (rest := []) (kM_isFull hA ⟨hsM15, hsM16, hsM17, hsM18, hsM19, hsM20⟩ (by omega)) calM_isFull cvM_isFull mlX_184 hx hb hml hown hts hB hG hK hS (by decide) hsM15 rfl ⟨by decide, by decide⟩ rfl hl.1 rfl (Nat.le_of_ble_eq_true rfl) dX_pack_4 ⟨by decide, by decide⟩ (fun H locs hG hS => ?_)
  refine lb_if_eq (tgt := 20) hx hb dX_pack_7 (by decide) (fun c1 => ?_) (fun c1 => ?_)
  · exact absurd (by omega) c1
  · exact x_throw hQ hl9 xok_eISE (show ((185 : Nat), "there are 40 things") ∈ xStr by decide +kernel) hx hb hml hown hts hG hK hS hXS hlk htab hl.1 dX_pack_10 dX_pack_13 dX_pack_14 dX_pack_16 dX_pack_19 (by decide) (by decide) (by decide) (by decide) (by decide) (by decide)

abbrev rmX_pack_z : Room := { frames := 7, cells := 1, slots := 6, locals := 102 }
set_option maxRecDepth 100000 in
set_option maxHeartbeats 4000000 in
theorem kX_pack_z {l : Launch} (hl9 : l.stackTraces = false) {D : va_G} {k : ClassId × ClassId × ClassId} {a : Nat → Nat} {B0 : Nat} {w : Nat → va_E} (hA : gA B0 a) {bw : Int32} {bd : Int32} {bu : Int32} {nt : Nat} {ns : Nat} {tw : Nat → Int32} {td : Nat → Int32} {sb : Nat → Int32} {sd : Nat → Int32} {su : Nat → Int32} (hsX : sX k a w ) (hsM : sM k a w bw bd bu nt ns tw td sb sd su) (x : Int32) (y : Int32) (hnt : nt < 40) (hz : ¬ (wdR x ∧ wdR y)) : xMet l yX_pack cX_pack 4 (some .int) rmX_pack_z D k a B0 w [.ref (a 0), .int x, .int y] eIAE := by
  have hsX0 := hsX
  obtain ⟨hsM15, hsM16, hsM17, hsM18, hsM19, hsM20⟩ := hsM
  refine x_ofW (by decide) rfl (fun p e s m args below meth c Q hQ htab hx hb hr hlk hml hown hts hB hG hK hS hXS ls hl => ?_)
  have hl : lv_has ls 4 [(0, .ref (a 0)), (1, .int x), (2, .int y)] := hl
  have hown : s.vm.findClass RX = some m.cls := hown
  refine lv_aload_n hx hb dX_pack_0 rfl (lv_at hl 0 rfl) ?_
  refine g_get hx hb hts inX hown hK hG 0 (by decide) hsX0 rfl 3 (by decide) lkX_33 rfl dX_pack_1 ?_
  refine g_ViR (i := 15) (As := []) (rest := []) (kM_isFull hA ⟨hsM15, hsM16, hsM17, hsM18, hsM19, hsM20⟩ (by omega)) calM_isFull cvM_isFull mlX_184 hx hb hml hown hts hB hG hK hS (by decide) hsM15 rfl ⟨by decide, by decide⟩ rfl hl.1 rfl (Nat.le_of_ble_eq_true rfl) dX_pack_4 ⟨by decide, by decide⟩ (fun H locs hG hS => ?_)
  refine lb_if_eq (tgt := 20) hx hb dX_pack_7 (by decide) (fun c1 => ?_) (fun c1 => ?_)
  · refine lv_iload_n hx hb dX_pack_20 rfl (lv_at hl 1 rfl) ?_
    by_cases hs2 : wdR x
    · refine g_SvR (As := [.int x]) (rest := []) (kX_requireMoldingSize hA x (by assumption)) calX_requireMoldingSize cvX_requireMoldingSize mlX_178 hx hb hml hown hts hB hG hK hS ⟨by decide, by decide⟩ rfl hl.1 rfl (Nat.le_of_ble_eq_true rfl) dX_pack_21 ⟨by decide, by decide⟩ (fun H locs hG hS => ?_)
      refine lv_iload_n hx hb dX_pack_24 rfl (lv_at hl 2 rfl) ?_
      by_cases hs3 : wdR y
      · refine g_SvR (As := [.int y]) (rest := []) (kX_requireMoldingSize hA y (by assumption)) calX_requireMoldingSize cvX_requireMoldingSize mlX_178 hx hb hml hown hts hB hG hK hS ⟨by decide, by decide⟩ rfl hl.1 rfl (Nat.le_of_ble_eq_true rfl) dX_pack_25 ⟨by decide, by decide⟩ (fun H locs hG hS => ?_)
        exact absurd ⟨by assumption, by assumption⟩ hz
      · exact x_SB (As := [.int y]) (rest := []) hQ htab hlk (kX_requireMoldingSize_b hl9 hA y (by assumption)) calX_requireMoldingSize cvX_requireMoldingSize mlX_178 hx hb hml hown hts hB hG hK hS hXS ⟨by decide, by decide⟩ rfl hl.1 rfl (Nat.le_of_ble_eq_true rfl) dX_pack_25 ⟨by decide, by decide⟩ (by decide) (by decide)
    · exact x_SB (As := [.int x]) (rest := []) hQ htab hlk (kX_requireMoldingSize_b hl9 hA x (by assumption)) calX_requireMoldingSize cvX_requireMoldingSize mlX_178 hx hb hml hown hts hB hG hK hS hXS ⟨by decide, by decide⟩ rfl hl.1 rfl (Nat.le_of_ble_eq_true rfl) dX_pack_21 ⟨by decide, by decide⟩ (by decide) (by decide)
  · exfalso
    first | omega | contradiction | (simp_all; done) | grind

abbrev rmX_pack_m : Room := { frames := 7, cells := 1, slots := 6, locals := 102 }
set_option maxRecDepth 100000 in
set_option maxHeartbeats 4000000 in
theorem kX_pack_m {l : Launch} (hl9 : l.stackTraces = false) {D : va_G} {k : ClassId × ClassId × ClassId} {a : Nat → Nat} {B0 : Nat} {w : Nat → va_E} (hA : gA B0 a) {bw : Int32} {bd : Int32} {bu : Int32} {nt : Nat} {ns : Nat} {tw : Nat → Int32} {td : Nat → Int32} {sb : Nat → Int32} {sd : Nat → Int32} {su : Nat → Int32} (hsX : sX k a w ) (hsM : sM k a w bw bd bu nt ns tw td sb sd su) (x : Int32) (y : Int32) (hns : ns ≤ nt) (hnt : nt < 40) (h1 : wdR x) (h2 : wdR y) (hsh : shF bw bd bu ns sd su x y ns 0 = -1) : xMet l yX_pack cX_pack 4 (some .int) rmX_pack_m D k a B0 w [.ref (a 0), .int x, .int y] eUOE := by
  have hsX0 := hsX
  obtain ⟨hsM15, hsM16, hsM17, hsM18, hsM19, hsM20⟩ := hsM
  refine x_ofW (by decide) rfl (fun p e s m args below meth c Q hQ htab hx hb hr hlk hml hown hts hB hG hK hS hXS ls hl => ?_)
  have hl : lv_has ls 4 [(0, .ref (a 0)), (1, .int x), (2, .int y)] := hl
  have hown : s.vm.findClass RX = some m.cls := hown
  refine lv_aload_n hx hb dX_pack_0 rfl (lv_at hl 0 rfl) ?_
  refine g_get hx hb hts inX hown hK hG 0 (by decide) hsX0 rfl 3 (by decide) lkX_33 rfl dX_pack_1 ?_
  refine g_ViR (i := 15) (As := []) (rest := []) (kM_isFull hA ⟨hsM15, hsM16, hsM17, hsM18, hsM19, hsM20⟩ (by omega)) calM_isFull cvM_isFull mlX_184 hx hb hml hown hts hB hG hK hS (by decide) hsM15 rfl ⟨by decide, by decide⟩ rfl hl.1 rfl (Nat.le_of_ble_eq_true rfl) dX_pack_4 ⟨by decide, by decide⟩ (fun H locs hG hS => ?_)
  refine lb_if_eq (tgt := 20) hx hb dX_pack_7 (by decide) (fun c1 => ?_) (fun c1 => ?_)
  · refine lv_iload_n hx hb dX_pack_20 rfl (lv_at hl 1 rfl) ?_
    refine g_SvR (As := [.int x]) (rest := []) (kX_requireMoldingSize hA x (by assumption)) calX_requireMoldingSize cvX_requireMoldingSize mlX_178 hx hb hml hown hts hB hG hK hS ⟨by decide, by decide⟩ rfl hl.1 rfl (Nat.le_of_ble_eq_true rfl) dX_pack_21 ⟨by decide, by decide⟩ (fun H locs hG hS => ?_)
    refine lv_iload_n hx hb dX_pack_24 rfl (lv_at hl 2 rfl) ?_
    refine g_SvR (As := [.int y]) (rest := []) (kX_requireMoldingSize hA y (by assumption)) calX_requireMoldingSize cvX_requireMoldingSize mlX_178 hx hb hml hown hts hB hG hK hS ⟨by decide, by decide⟩ rfl hl.1 rfl (Nat.le_of_ble_eq_true rfl) dX_pack_25 ⟨by decide, by decide⟩ (fun H locs hG hS => ?_)
    refine lv_aload_n hx hb dX_pack_28 rfl (lv_at hl 0 rfl) ?_
    refine g_get hx hb hts inX hown hK hG 0 (by decide) hsX0 rfl 3 (by decide) lkX_33 rfl dX_pack_29 ?_
    refine lv_iload_n hx hb dX_pack_32 rfl (lv_at hl 1 rfl) ?_
    refine lv_iload_n hx hb dX_pack_33 rfl (lv_at hl 2 rfl) ?_
    refine g_ViR (i := 15) (As := [.int x, .int y]) (rest := []) (kM_shelfFor hA ⟨hsM15, hsM16, hsM17, hsM18, hsM19, hsM20⟩ x y (by omega)) calM_shelfFor cvM_shelfFor mlX_187 hx hb hml hown hts hB hG hK hS (by decide) hsM15 rfl ⟨by decide, by decide⟩ rfl hl.1 rfl (Nat.le_of_ble_eq_true rfl) dX_pack_34 ⟨by decide, by decide⟩ (fun H locs hG hS => ?_)
    refine lv_istore_n (lv' := [(3, .int (shF bw bd bu ns sd su x y ns 0)), (0, .ref (a 0)), (1, .int x), (2, .int y)]) hx hb dX_pack_37 rfl hl (by decide) rfl (fun ls hl => ?_)
    refine lv_iload_n hx hb dX_pack_38 rfl (lv_at hl 0 rfl) ?_
    refine lv_iconst (v := (-1)) hx hb dX_pack_39 (by decide) ?_
    refine lv_icmp_ne (tgt := 53) hx hb dX_pack_40 (by decide) (fun c2 => ?_) (fun c2 => ?_)
    · exact absurd hsh c2
    · exact x_throw hQ hl9 xok_eUOE (show ((190 : Nat), "the thing does not fit") ∈ xStr by decide +kernel) hx hb hml hown hts hG hK hS hXS hlk htab hl.1 dX_pack_43 dX_pack_46 dX_pack_47 dX_pack_49 dX_pack_52 (by decide) (by decide) (by decide) (by decide) (by decide) (by decide)
  · exfalso
    first | omega | contradiction | (simp_all; done) | grind

abbrev rmX_packed : Room := { frames := 1, cells := 0, slots := 0, locals := 21 }
set_option maxRecDepth 100000 in
set_option maxHeartbeats 4000000 in
theorem kX_packed {l : Launch} {D : va_G} {k : ClassId × ClassId × ClassId} {a : Nat → Nat} {B0 : Nat} {w : Nat → va_E} (hA : gA B0 a) {bw : Int32} {bd : Int32} {bu : Int32} {nt : Nat} {ns : Nat} {tw : Nat → Int32} {td : Nat → Int32} {sb : Nat → Int32} {sd : Nat → Int32} {su : Nat → Int32} (hsX : sX k a w ) (hsM : sM k a w bw bd bu nt ns tw td sb sd su) (j : Nat) (q : Int32) (hj : j < nt) (hn : nt ≤ 40) (hw : rngI q 0 1) : Met l yX_packed (tbw yX_packed cX_packed 3 (some .int)) rmX_packed (gPc D k a B0 w [.ref (a 0), .int (nI j), .int q]) (va_Qi (roP (rPk tw td j q) w) (gB D k a) (gF B0)) 0 0 (gF B0) := by
  have hsX0 := hsX
  obtain ⟨hsM15, hsM16, hsM17, hsM18, hsM19, hsM20⟩ := hsM
  refine g_ofW (by decide) rfl (fun p e s m args below meth c Q hQ hx hb hr hlk hml hown hts hB hG hK hS ls hl => ?_)
  have hl : lv_has ls 3 [(0, .ref (a 0)), (1, .int (nI j)), (2, .int q)] := hl
  have hown : s.vm.findClass RX = some m.cls := hown
  refine lv_aload_n hx hb dX_packed_0 rfl (lv_at hl 0 rfl) ?_
  refine g_get hx hb hts inX hown hK hG 0 (by decide) hsX0 rfl 3 (by decide) lkX_33 rfl dX_packed_1 ?_
  refine lv_iload_n hx hb dX_packed_4 rfl (lv_at hl 1 rfl) ?_
  refine g_ViR (i := 15) (As := [.int (nI j)]) (rest := []) (kM_hasThing hA ⟨hsM15, hsM16, hsM17, hsM18, hsM19, hsM20⟩ (nI j)) calM_hasThing cvM_hasThing mlX_195 hx hb hml hown hts hB hG hK hS (by decide) hsM15 rfl ⟨by decide, by decide⟩ rfl hl.1 rfl (Nat.le_of_ble_eq_true rfl) dX_packed_5 ⟨by decide, by decide⟩ (fun H locs hG hS => ?_)
  refine lb_if_ne (tgt := 21) hx hb dX_packed_8 (by decide) (fun c1 => ?_) (fun c1 => ?_)
  · refine lv_iload_n hx hb dX_packed_21 rfl (lv_at hl 2 rfl) ?_
    refine lv_if_lt (tgt := 30) hx hb dX_packed_22 (by decide) (fun c2 => ?_) (fun c2 => ?_)
    · exfalso
      first | exact absurd (by assumption) hw.1 | exact absurd (Int32.not_le.mp (by assumption)) hw.2
    · refine lv_iload_n hx hb dX_packed_25 rfl (lv_at hl 2 rfl) ?_
      refine lv_iconst (v := 1) hx hb dX_packed_26 (by decide) ?_
      refine lv_icmp_le (tgt := 40) hx hb dX_packed_27 (by decide) (fun c3 => ?_) (fun c3 => ?_)
      · refine lv_iload_n hx hb dX_packed_40 rfl (lv_at hl 2 rfl) ?_
        refine lv_if_ne (tgt := 55) hx hb dX_packed_41 (by decide) (fun c4 => ?_) (fun c4 => ?_)
        · refine lv_aload_n hx hb dX_packed_55 rfl (lv_at hl 0 rfl) ?_
          refine g_get hx hb hts inX hown hK hG 0 (by decide) hsX0 rfl 3 (by decide) lkX_33 rfl dX_packed_56 ?_
          refine lv_iload_n hx hb dX_packed_59 rfl (lv_at hl 1 rfl) ?_
          refine g_ViR (i := 15) (As := [.int (nI j)]) (rest := []) (kM_alongDepth hA ⟨hsM15, hsM16, hsM17, hsM18, hsM19, hsM20⟩ j (by omega)) calM_alongDepth cvM_alongDepth mlX_205 hx hb hml hown hts hB hG hK hS (by decide) hsM15 rfl ⟨by decide, by decide⟩ rfl hl.1 rfl (Nat.le_of_ble_eq_true rfl) dX_packed_60 ⟨by decide, by decide⟩ (fun H locs hG hS => ?_)
          exact g_iret hQ hx hb hr hlk hG hK hS (by decide) (by decide) ⟨by first | exact (if_pos (by assumption)).symm | exact (if_neg (by assumption)).symm, rfl⟩ dX_packed_63
        · refine lv_aload_n hx hb dX_packed_44 rfl (lv_at hl 0 rfl) ?_
          refine g_get hx hb hts inX hown hK hG 0 (by decide) hsX0 rfl 3 (by decide) lkX_33 rfl dX_packed_45 ?_
          refine lv_iload_n hx hb dX_packed_48 rfl (lv_at hl 1 rfl) ?_
          refine g_ViR (i := 15) (As := [.int (nI j)]) (rest := []) (kM_alongWidth hA ⟨hsM15, hsM16, hsM17, hsM18, hsM19, hsM20⟩ j (by omega)) calM_alongWidth cvM_alongWidth mlX_202 hx hb hml hown hts hB hG hK hS (by decide) hsM15 rfl ⟨by decide, by decide⟩ rfl hl.1 rfl (Nat.le_of_ble_eq_true rfl) dX_packed_49 ⟨by decide, by decide⟩ (fun H locs hG hS => ?_)
          refine lv_goto (tgt := 63) hx hb dX_packed_52 (by decide) ?_
          exact g_iret hQ hx hb hr hlk hG hK hS (by decide) (by decide) ⟨by first | exact (if_pos (by assumption)).symm | exact (if_neg (by assumption)).symm, rfl⟩ dX_packed_63
      · exfalso
        first | exact absurd (by assumption) hw.1 | exact absurd (Int32.not_le.mp (by assumption)) hw.2
  · exfalso
    exact (by assumption : ¬ (¬ nI j < 0 ∧ ¬ nI nt ≤ nI j)) ⟨nI_pos (by omega), nI_ge (by omega) (by omega)⟩

abbrev rmX_packed_p : Room := { frames := 6, cells := 1, slots := 6, locals := 82 }
set_option maxRecDepth 100000 in
set_option maxHeartbeats 4000000 in
theorem kX_packed_p {l : Launch} (hl9 : l.stackTraces = false) {D : va_G} {k : ClassId × ClassId × ClassId} {a : Nat → Nat} {B0 : Nat} {w : Nat → va_E} (hA : gA B0 a) {bw : Int32} {bd : Int32} {bu : Int32} {nt : Nat} {ns : Nat} {tw : Nat → Int32} {td : Nat → Int32} {sb : Nat → Int32} {sd : Nat → Int32} {su : Nat → Int32} (hsX : sX k a w ) (hsM : sM k a w bw bd bu nt ns tw td sb sd su) (q : Int32) (r : Int32) (hq : ¬ (¬ q < 0 ∧ ¬ nI nt ≤ q)) : xMet l yX_packed cX_packed 3 (some .int) rmX_packed_p D k a B0 w [.ref (a 0), .int q, .int r] eIOB := by
  have hsX0 := hsX
  obtain ⟨hsM15, hsM16, hsM17, hsM18, hsM19, hsM20⟩ := hsM
  refine x_ofW (by decide) rfl (fun p e s m args below meth c Q hQ htab hx hb hr hlk hml hown hts hB hG hK hS hXS ls hl => ?_)
  have hl : lv_has ls 3 [(0, .ref (a 0)), (1, .int q), (2, .int r)] := hl
  have hown : s.vm.findClass RX = some m.cls := hown
  refine lv_aload_n hx hb dX_packed_0 rfl (lv_at hl 0 rfl) ?_
  refine g_get hx hb hts inX hown hK hG 0 (by decide) hsX0 rfl 3 (by decide) lkX_33 rfl dX_packed_1 ?_
  refine lv_iload_n hx hb dX_packed_4 rfl (lv_at hl 1 rfl) ?_
  refine g_ViR (i := 15) (As := [.int q]) (rest := []) (kM_hasThing hA ⟨hsM15, hsM16, hsM17, hsM18, hsM19, hsM20⟩ q) calM_hasThing cvM_hasThing mlX_195 hx hb hml hown hts hB hG hK hS (by decide) hsM15 rfl ⟨by decide, by decide⟩ rfl hl.1 rfl (Nat.le_of_ble_eq_true rfl) dX_packed_5 ⟨by decide, by decide⟩ (fun H locs hG hS => ?_)
  refine lb_if_ne (tgt := 21) hx hb dX_packed_8 (by decide) (fun c1 => ?_) (fun c1 => ?_)
  · exact absurd c1 hq
  · exact x_throw hQ hl9 xok_eIOB (show ((198 : Nat), "no such thing") ∈ xStr by decide +kernel) hx hb hml hown hts hG hK hS hXS hlk htab hl.1 dX_packed_11 dX_packed_14 dX_packed_15 dX_packed_17 dX_packed_20 (by decide) (by decide) (by decide) (by decide) (by decide) (by decide)

abbrev rmX_packed_w : Room := { frames := 6, cells := 1, slots := 6, locals := 82 }
set_option maxRecDepth 100000 in
set_option maxHeartbeats 4000000 in
theorem kX_packed_w {l : Launch} (hl9 : l.stackTraces = false) {D : va_G} {k : ClassId × ClassId × ClassId} {a : Nat → Nat} {B0 : Nat} {w : Nat → va_E} (hA : gA B0 a) {bw : Int32} {bd : Int32} {bu : Int32} {nt : Nat} {ns : Nat} {tw : Nat → Int32} {td : Nat → Int32} {sb : Nat → Int32} {sd : Nat → Int32} {su : Nat → Int32} (hsX : sX k a w ) (hsM : sM k a w bw bd bu nt ns tw td sb sd su) (j : Nat) (r : Int32) (hj : j < nt) (hn : nt ≤ 40) (hw : ¬ rngI r 0 1) : xMet l yX_packed cX_packed 3 (some .int) rmX_packed_w D k a B0 w [.ref (a 0), .int (nI j), .int r] eIOB := by
  have hsX0 := hsX
  obtain ⟨hsM15, hsM16, hsM17, hsM18, hsM19, hsM20⟩ := hsM
  refine x_ofW (by decide) rfl (fun p e s m args below meth c Q hQ htab hx hb hr hlk hml hown hts hB hG hK hS hXS ls hl => ?_)
  have hl : lv_has ls 3 [(0, .ref (a 0)), (1, .int (nI j)), (2, .int r)] := hl
  have hown : s.vm.findClass RX = some m.cls := hown
  refine lv_aload_n hx hb dX_packed_0 rfl (lv_at hl 0 rfl) ?_
  refine g_get hx hb hts inX hown hK hG 0 (by decide) hsX0 rfl 3 (by decide) lkX_33 rfl dX_packed_1 ?_
  refine lv_iload_n hx hb dX_packed_4 rfl (lv_at hl 1 rfl) ?_
  refine g_ViR (i := 15) (As := [.int (nI j)]) (rest := []) (kM_hasThing hA ⟨hsM15, hsM16, hsM17, hsM18, hsM19, hsM20⟩ (nI j)) calM_hasThing cvM_hasThing mlX_195 hx hb hml hown hts hB hG hK hS (by decide) hsM15 rfl ⟨by decide, by decide⟩ rfl hl.1 rfl (Nat.le_of_ble_eq_true rfl) dX_packed_5 ⟨by decide, by decide⟩ (fun H locs hG hS => ?_)
  refine lb_if_ne (tgt := 21) hx hb dX_packed_8 (by decide) (fun c1 => ?_) (fun c1 => ?_)
  · refine lv_iload_n hx hb dX_packed_21 rfl (lv_at hl 2 rfl) ?_
    refine lv_if_lt (tgt := 30) hx hb dX_packed_22 (by decide) (fun c2 => ?_) (fun c2 => ?_)
    · exact x_throw hQ hl9 xok_eIOB (show ((200 : Nat), "a thing begins along 0 and 1") ∈ xStr by decide +kernel) hx hb hml hown hts hG hK hS hXS hlk htab hl.1 dX_packed_30 dX_packed_33 dX_packed_34 dX_packed_36 dX_packed_39 (by decide) (by decide) (by decide) (by decide) (by decide) (by decide)
    · refine lv_iload_n hx hb dX_packed_25 rfl (lv_at hl 2 rfl) ?_
      refine lv_iconst (v := 1) hx hb dX_packed_26 (by decide) ?_
      refine lv_icmp_le (tgt := 40) hx hb dX_packed_27 (by decide) (fun c3 => ?_) (fun c3 => ?_)
      · exact absurd ⟨by assumption, Int32.not_lt.mpr (by assumption)⟩ hw
      · exact x_throw hQ hl9 xok_eIOB (show ((200 : Nat), "a thing begins along 0 and 1") ∈ xStr by decide +kernel) hx hb hml hown hts hG hK hS hXS hlk htab hl.1 dX_packed_30 dX_packed_33 dX_packed_34 dX_packed_36 dX_packed_39 (by decide) (by decide) (by decide) (by decide) (by decide) (by decide)
  · exact absurd ⟨nI_pos (by omega), nI_ge (by omega) (by omega)⟩ c1
end
