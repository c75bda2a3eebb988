theorem g_of {D : va_G} {B0 : Nat} {H : Heap} {ws : va_W} (d : Nat × va_E) (hn : ws.length = 38) (hP : va_P D vwCl ws H) (hD : va_D (gF B0) ws) : gW D (fun i => (ws.getD i d).1) (fun i => (ws.getD i d).2) H ∧ gA B0 (fun i => (ws.getD i d).1) := by
  have key : ∀ i, i < gN → ws[i]? = some (ws.getD i d) := fun i hi => by
    have hi : i < ws.length := by rw [hn]; exact hi
    rw [List.getD_eq_getElem?_getD, List.getElem?_eq_getElem hi]
    rfl
  refine ⟨fun i hi => hP i _ (key i hi), fun i j hi hj h => hD.1 i j _ _ (key i hi) (key j hj) h, fun i hi => hD.2 i _ (key i hi)⟩
theorem relJ_0 : relJ (fun _ => 0) (fun _ => 0) := fun i j _ _ => ⟨by rw [b2i_f (by rw [b_0]; decide)], by rw [b_0, b_0]⟩
theorem relP_0 (up : Nat → Int64) (fa we ri rd ma mb mc co ro : Nat → Int32) : relP 0 up (fun _ => 0) fa we (fun _ => 0) ri (fun _ => 0) rd ma mb mc co (fun _ => 0) ro := ⟨by omega, fun j h => absurd h (Nat.not_lt_zero j), fun _ _ => rfl, fun _ _ => rfl, relJ_0⟩
theorem relR_0 (ru rl : Nat → Int64) (md mh : Nat → Int32) : relR 0 ru rl md mh := ⟨by omega, fun j h => absurd h (Nat.not_lt_zero j)⟩
theorem relF_0 (fo ff mo mf : Nat → Int32) : relF 0 fo ff mo mf := ⟨by omega, fun j h => absurd h (Nat.not_lt_zero j), fun j h => absurd h (by omega)⟩
theorem wd_1000 : wdR 1000 := ⟨by decide, by decide⟩
set_option maxRecDepth 100000 in
set_option maxHeartbeats 4000000 in
theorem whole_start {p : Program} {e : Env} {s : State} {m : MethodId} {below : List Frame} {meth : Method} {c : Code} (l : Launch) (hl9 : l.stackTraces = false) {b L : Nat} {xs : Nat → Int32} (hL : L ≤ 2048) (C0 : lw_At p s m meth c b L xs) : W p l e room_1 s m #[Value.ref b] below meth c s.heap [] 0 0 (lw_Z below #[Value.ref b] s) (entryFrame m ([Value.ref b] : List Value).toArray 8) := by
  obtain ⟨hx, hb, hr, hml, hown, hts0, hX, hbl, hlocks, hgv⟩ := C0
  have hXS := xS_start hts0 hgv
  have hts : ∀ w ∈ TB, w.before #[Value.ref b] s = true := fun w hw => hts0 w (List.mem_filter.mp hw).1
  have hown : s.vm.findClass RL = some m.cls := hown
  have hb : c.code = cL_law := hb
  obtain ⟨c0, i0, hKn0⟩ := u_known (C := RX) (T := TX) (N := 4) (n := 4) hts inX (hts _ niX)
  obtain ⟨c1, i1, hKn1⟩ := u_known (C := RP) (T := TP) (N := 8) (n := 8) hts inP (hts _ niP)
  obtain ⟨c2, i2, hKn2⟩ := u_known (C := RR) (T := TR) (N := 3) (n := 3) hts inR (hts _ niR)
  obtain ⟨c3, i3, hKn3⟩ := u_known (C := RF) (T := TF) (N := 3) (n := 3) hts inF (hts _ niF)
  obtain ⟨c4, i4, hKn4⟩ := u_known (C := RM) (T := TM) (N := 10) (n := 10) hts inM (hts _ niM)
  obtain ⟨c5, i5, hKn5⟩ := u_known (C := RD) (T := TD) (N := 22) (n := 22) hts inD (hts _ niD)
  obtain ⟨kI, kkI, cpI, fI1, fI2, fI3⟩ := Cond.arrayClass_spec (hts _ wAI)
  obtain ⟨kL, kkL, cpL, fL1, fL2, fL3⟩ := Cond.arrayClass_spec (hts _ wAL)
  obtain ⟨kZ, kkZ, cpZ, fZ1, fZ2, fZ3⟩ := Cond.arrayClass_spec (hts _ wAZ)
  obtain ⟨D, hKc⟩ : ∃ D : va_G, ∀ (k : Nat) (q : vw_C), vwCl[k]? = some q → u_Kn s q.1 q.2.1 q.2.2 (D.1 k) (D.2 k) := by
    refine ⟨(fun k => if k = 0 then c0 else if k = 1 then c1 else if k = 2 then c2 else if k = 3 then c3 else if k = 4 then c4 else c5, fun k => if k = 0 then i0 else if k = 1 then i1 else if k = 2 then i2 else if k = 3 then i3 else if k = 4 then i4 else i5), ?_⟩
    intro k q hq
    match k, hq with
    | 0, hq => cases hq; exact hKn0
    | 1, hq => cases hq; exact hKn1
    | 2, hq => cases hq; exact hKn2
    | 3, hq => cases hq; exact hKn3
    | 4, hq => cases hq; exact hKn4
    | 5, hq => cases hq; exact hKn5
    | k + 6, hq => simp [vwCl] at hq
  obtain ⟨k, hk⟩ : ∃ z : ClassId × ClassId × ClassId, z = (kI, kL, kZ) := ⟨_, rfl⟩
  have hK : va_K D vwCl (gT k) s := by
    subst hk
    refine ⟨hKc, fun z q hq => ?_⟩
    match z, hq with
    | 0, hq => cases hq; exact ⟨fun n z => ⟨fun k9 h9 => (by cases h9), kkI, fI2, cpI, fI3⟩, fI1⟩
    | 1, hq => cases hq; exact ⟨fun n z => ⟨fun k9 h9 => (by cases h9), kkL, fL2, cpL, fL3⟩, fL1⟩
    | 2, hq => cases hq; exact ⟨fun n z => ⟨fun k9 h9 => (by cases h9), kkZ, fZ2, cpZ, fZ3⟩, fZ1⟩
    | z + 3, hq => simp [gT] at hq
  have hA : ∀ q : Nat, s.heap.size ≤ q → gF s.heap.size q := fun _ h => h
  have hS : va_S (gF s.heap.size) s.heap s.heap [] := va_S.rf
  have hP : va_P D vwCl [] s.heap := fun k q h => by simp at h
  have hD : va_D (gF s.heap.size) [] := ⟨fun i j p q h => by simp at h, fun k q h => by simp at h⟩
  have hl := lv_entry ([.ref b]) (n := 8) (Nat.le_of_ble_eq_true rfl)
  rw [lg_entry_eq]
  generalize (lg_sl ([.ref b]) ++ List.replicate (8 - (lg_sl ([.ref b])).length) Slot.unset).toArray = ls at hl ⊢
  have hl : lv_has ls 8 [(0, .ref b)] := hl
  refine va_new (ci := 0) (fs := [.null, .null, .null, .null]) (C := RX) (T := TX) (N := 4) hx hb hts inX tyX tokX hown (hts _ nwL_8) (hts _ niX) (hts _ nzX) hK hP hD hS hA rfl (fun j hj => by rcases (show j = 0 ∨ j = 1 ∨ j = 2 ∨ j = 3 by omega) with rfl | rfl | rfl | rfl <;> rfl) (Nat.le_of_ble_eq_true rfl) (Nat.le_of_ble_eq_true rfl) dL_law_0 (fun o0 H hP hD hS => ?_)
  refine W.widen (k := 1) (n := 4) (Nat.le_of_ble_eq_true rfl) (Nat.le_of_ble_eq_true rfl) ?_
  refine lv_dup hx hb dL_law_3 rfl ?_
  refine n_call (wr := []) (x := nFX k) (f := nLX k) (rest := [.ref o0]) nX_init hx hb hml hown hts calX_init rfl nmX mlL_79 ⟨Nat.le_of_ble_eq_true rfl, Nat.le_of_ble_eq_true rfl⟩ hK hP hD hS hA [] rfl (by decide) 0 rfl (by decide) hl.1 (Nat.le_of_ble_eq_true rfl) dL_law_4 ⟨Nat.le_of_ble_eq_true rfl, Nat.le_of_ble_eq_true rfl⟩ (fun u0 H locs hP hD hS => ?_)
  refine W.widen (k := 21) (n := 596) (Nat.le_of_ble_eq_true rfl) (Nat.le_of_ble_eq_true rfl) ?_
  have hP : va_P D vwCl [(o0, .inr (0, [.ref (u0 1), .ref (u0 9), .ref (u0 12), .ref (u0 15)])), ((u0 1), .inr (1, [.ref (u0 2), .ref (u0 3), .ref (u0 4), .ref (u0 5), .ref (u0 6), .ref (u0 7), .ref (u0 8), .int 0])), ((u0 2), .inl (k.2.1, 12, .inr (.inl (fun _ => 0)))), ((u0 3), .inl (k.2.1, 12, .inr (.inl (fun _ => 0)))), ((u0 4), .inl (k.1, 12, .inl (fun _ => 0))), ((u0 5), .inl (k.1, 72, .inl (fun _ => 0))), ((u0 6), .inl (k.1, 72, .inl (fun _ => 0))), ((u0 7), .inl (k.1, 12, .inl (fun _ => 0))), ((u0 8), .inl (k.2.2, 144, .inl (fun _ => 0))), ((u0 9), .inr (2, [.ref (u0 10), .ref (u0 11), .int 0])), ((u0 10), .inl (k.2.1, 8, .inr (.inl (fun _ => 0)))), ((u0 11), .inl (k.2.1, 8, .inr (.inl (fun _ => 0)))), ((u0 12), .inr (3, [.ref (u0 13), .ref (u0 14), .int 0])), ((u0 13), .inl (k.1, 8, .inl (fun _ => 0))), ((u0 14), .inl (k.1, 8, .inl (fun _ => 0))), ((u0 15), .inr (4, [.ref (u0 16), .ref (u0 17), .ref (u0 18), .ref (u0 19), .ref (u0 20), .int 1000, .int 1000, .int 0, .int 0, .int 0])), ((u0 16), .inl (k.1, 40, .inl (fun _ => 0))), ((u0 17), .inl (k.1, 40, .inl (fun _ => 0))), ((u0 18), .inl (k.1, 40, .inl (fun _ => 0))), ((u0 19), .inl (k.1, 40, .inl (fun _ => 0))), ((u0 20), .inl (k.1, 40, .inl (fun _ => 0)))] H := hP
  have hD : va_D (gF s.heap.size) [(o0, .inr (0, [.ref (u0 1), .ref (u0 9), .ref (u0 12), .ref (u0 15)])), ((u0 1), .inr (1, [.ref (u0 2), .ref (u0 3), .ref (u0 4), .ref (u0 5), .ref (u0 6), .ref (u0 7), .ref (u0 8), .int 0])), ((u0 2), .inl (k.2.1, 12, .inr (.inl (fun _ => 0)))), ((u0 3), .inl (k.2.1, 12, .inr (.inl (fun _ => 0)))), ((u0 4), .inl (k.1, 12, .inl (fun _ => 0))), ((u0 5), .inl (k.1, 72, .inl (fun _ => 0))), ((u0 6), .inl (k.1, 72, .inl (fun _ => 0))), ((u0 7), .inl (k.1, 12, .inl (fun _ => 0))), ((u0 8), .inl (k.2.2, 144, .inl (fun _ => 0))), ((u0 9), .inr (2, [.ref (u0 10), .ref (u0 11), .int 0])), ((u0 10), .inl (k.2.1, 8, .inr (.inl (fun _ => 0)))), ((u0 11), .inl (k.2.1, 8, .inr (.inl (fun _ => 0)))), ((u0 12), .inr (3, [.ref (u0 13), .ref (u0 14), .int 0])), ((u0 13), .inl (k.1, 8, .inl (fun _ => 0))), ((u0 14), .inl (k.1, 8, .inl (fun _ => 0))), ((u0 15), .inr (4, [.ref (u0 16), .ref (u0 17), .ref (u0 18), .ref (u0 19), .ref (u0 20), .int 1000, .int 1000, .int 0, .int 0, .int 0])), ((u0 16), .inl (k.1, 40, .inl (fun _ => 0))), ((u0 17), .inl (k.1, 40, .inl (fun _ => 0))), ((u0 18), .inl (k.1, 40, .inl (fun _ => 0))), ((u0 19), .inl (k.1, 40, .inl (fun _ => 0))), ((u0 20), .inl (k.1, 40, .inl (fun _ => 0)))] := hD
  refine lv_astore_n (lv' := [(1, .ref o0), (0, .ref b)]) hx hb dL_law_7 rfl hl (by decide) rfl (fun ls hl => ?_)
  refine va_new (ci := 5) (fs := [.int 0, .int 0, .null, .null, .null, .null, .null, .null, .null, .int 0, .null, .null, .int 0, .null, .null, .int 0, .int 0, .int 0, .null, .null, .null, .null]) (C := RD) (T := TD) (N := 22) hx hb hts inD tyD tokD hown (hts _ nwL_80) (hts _ niD) (hts _ nzD) hK hP hD hS hA rfl (fun j hj => by rcases (show j = 0 ∨ j = 1 ∨ j = 2 ∨ j = 3 ∨ j = 4 ∨ j = 5 ∨ j = 6 ∨ j = 7 ∨ j = 8 ∨ j = 9 ∨ j = 10 ∨ j = 11 ∨ j = 12 ∨ j = 13 ∨ j = 14 ∨ j = 15 ∨ j = 16 ∨ j = 17 ∨ j = 18 ∨ j = 19 ∨ j = 20 ∨ j = 21 by omega) with rfl | rfl | rfl | rfl | rfl | rfl | rfl | rfl | rfl | rfl | rfl | rfl | rfl | rfl | rfl | rfl | rfl | rfl | rfl | rfl | rfl | rfl <;> rfl) (Nat.le_of_ble_eq_true rfl) (Nat.le_of_ble_eq_true rfl) dL_law_8 (fun o8 H hP hD hS => ?_)
  refine W.widen (k := 22) (n := 618) (Nat.le_of_ble_eq_true rfl) (Nat.le_of_ble_eq_true rfl) ?_
  refine lv_dup hx hb dL_law_11 rfl ?_
  refine n_call (wr := [(o0, .inr (0, [.ref (u0 1), .ref (u0 9), .ref (u0 12), .ref (u0 15)])), ((u0 1), .inr (1, [.ref (u0 2), .ref (u0 3), .ref (u0 4), .ref (u0 5), .ref (u0 6), .ref (u0 7), .ref (u0 8), .int 0])), ((u0 2), .inl (k.2.1, 12, .inr (.inl (fun _ => 0)))), ((u0 3), .inl (k.2.1, 12, .inr (.inl (fun _ => 0)))), ((u0 4), .inl (k.1, 12, .inl (fun _ => 0))), ((u0 5), .inl (k.1, 72, .inl (fun _ => 0))), ((u0 6), .inl (k.1, 72, .inl (fun _ => 0))), ((u0 7), .inl (k.1, 12, .inl (fun _ => 0))), ((u0 8), .inl (k.2.2, 144, .inl (fun _ => 0))), ((u0 9), .inr (2, [.ref (u0 10), .ref (u0 11), .int 0])), ((u0 10), .inl (k.2.1, 8, .inr (.inl (fun _ => 0)))), ((u0 11), .inl (k.2.1, 8, .inr (.inl (fun _ => 0)))), ((u0 12), .inr (3, [.ref (u0 13), .ref (u0 14), .int 0])), ((u0 13), .inl (k.1, 8, .inl (fun _ => 0))), ((u0 14), .inl (k.1, 8, .inl (fun _ => 0))), ((u0 15), .inr (4, [.ref (u0 16), .ref (u0 17), .ref (u0 18), .ref (u0 19), .ref (u0 20), .int 1000, .int 1000, .int 0, .int 0, .int 0])), ((u0 16), .inl (k.1, 40, .inl (fun _ => 0))), ((u0 17), .inl (k.1, 40, .inl (fun _ => 0))), ((u0 18), .inl (k.1, 40, .inl (fun _ => 0))), ((u0 19), .inl (k.1, 40, .inl (fun _ => 0))), ((u0 20), .inl (k.1, 40, .inl (fun _ => 0)))]) (x := nFD k) (f := nLD k) (rest := [.ref o8]) nD_init hx hb hml hown hts calD_init rfl nmD mlL_82 ⟨Nat.le_of_ble_eq_true rfl, Nat.le_of_ble_eq_true rfl⟩ hK hP hD hS hA [0, 1, 2, 3, 4, 5, 6, 7, 8, 9, 10, 11, 12, 13, 14, 15, 16, 17, 18, 19, 20] rfl (by decide) 21 rfl (by decide) hl.1 (Nat.le_of_ble_eq_true rfl) dL_law_12 ⟨Nat.le_of_ble_eq_true rfl, Nat.le_of_ble_eq_true rfl⟩ (fun u8 H locs hP hD hS => ?_)
  refine W.widen (k := 37) (n := 954) (Nat.le_of_ble_eq_true rfl) (Nat.le_of_ble_eq_true rfl) ?_
  have hP : va_P D vwCl [(o0, .inr (0, [.ref (u0 1), .ref (u0 9), .ref (u0 12), .ref (u0 15)])), ((u0 1), .inr (1, [.ref (u0 2), .ref (u0 3), .ref (u0 4), .ref (u0 5), .ref (u0 6), .ref (u0 7), .ref (u0 8), .int 0])), ((u0 2), .inl (k.2.1, 12, .inr (.inl (fun _ => 0)))), ((u0 3), .inl (k.2.1, 12, .inr (.inl (fun _ => 0)))), ((u0 4), .inl (k.1, 12, .inl (fun _ => 0))), ((u0 5), .inl (k.1, 72, .inl (fun _ => 0))), ((u0 6), .inl (k.1, 72, .inl (fun _ => 0))), ((u0 7), .inl (k.1, 12, .inl (fun _ => 0))), ((u0 8), .inl (k.2.2, 144, .inl (fun _ => 0))), ((u0 9), .inr (2, [.ref (u0 10), .ref (u0 11), .int 0])), ((u0 10), .inl (k.2.1, 8, .inr (.inl (fun _ => 0)))), ((u0 11), .inl (k.2.1, 8, .inr (.inl (fun _ => 0)))), ((u0 12), .inr (3, [.ref (u0 13), .ref (u0 14), .int 0])), ((u0 13), .inl (k.1, 8, .inl (fun _ => 0))), ((u0 14), .inl (k.1, 8, .inl (fun _ => 0))), ((u0 15), .inr (4, [.ref (u0 16), .ref (u0 17), .ref (u0 18), .ref (u0 19), .ref (u0 20), .int 1000, .int 1000, .int 0, .int 0, .int 0])), ((u0 16), .inl (k.1, 40, .inl (fun _ => 0))), ((u0 17), .inl (k.1, 40, .inl (fun _ => 0))), ((u0 18), .inl (k.1, 40, .inl (fun _ => 0))), ((u0 19), .inl (k.1, 40, .inl (fun _ => 0))), ((u0 20), .inl (k.1, 40, .inl (fun _ => 0))), (o8, .inr (5, [.int 0, .int 0, .ref (u8 1), .ref (u8 2), .ref (u8 3), .ref (u8 4), .ref (u8 5), .ref (u8 6), .ref (u8 7), .int 0, .ref (u8 8), .ref (u8 9), .int 0, .ref (u8 10), .ref (u8 11), .int 1000, .int 1000, .int 0, .ref (u8 12), .ref (u8 13), .ref (u8 14), .ref (u8 15)])), ((u8 1), .inl (k.2.2, 12, .inl (fun _ => 0))), ((u8 2), .inl (k.1, 12, .inl (fun _ => 0))), ((u8 3), .inl (k.1, 12, .inl (fun _ => 0))), ((u8 4), .inl (k.1, 12, .inl (fun _ => 0))), ((u8 5), .inl (k.1, 72, .inl (fun _ => 0))), ((u8 6), .inl (k.1, 12, .inl (fun _ => 0))), ((u8 7), .inl (k.1, 12, .inl (fun _ => 0))), ((u8 8), .inl (k.1, 8, .inl (fun _ => 0))), ((u8 9), .inl (k.1, 8, .inl (fun _ => 0))), ((u8 10), .inl (k.1, 8, .inl (fun _ => 0))), ((u8 11), .inl (k.1, 8, .inl (fun _ => 0))), ((u8 12), .inl (k.1, 40, .inl (fun _ => 0))), ((u8 13), .inl (k.1, 40, .inl (fun _ => 0))), ((u8 14), .inl (k.1, 40, .inl (fun _ => 0))), ((u8 15), .inl (k.1, 40, .inl (fun _ => 0)))] H := hP
  have hD : va_D (gF s.heap.size) [(o0, .inr (0, [.ref (u0 1), .ref (u0 9), .ref (u0 12), .ref (u0 15)])), ((u0 1), .inr (1, [.ref (u0 2), .ref (u0 3), .ref (u0 4), .ref (u0 5), .ref (u0 6), .ref (u0 7), .ref (u0 8), .int 0])), ((u0 2), .inl (k.2.1, 12, .inr (.inl (fun _ => 0)))), ((u0 3), .inl (k.2.1, 12, .inr (.inl (fun _ => 0)))), ((u0 4), .inl (k.1, 12, .inl (fun _ => 0))), ((u0 5), .inl (k.1, 72, .inl (fun _ => 0))), ((u0 6), .inl (k.1, 72, .inl (fun _ => 0))), ((u0 7), .inl (k.1, 12, .inl (fun _ => 0))), ((u0 8), .inl (k.2.2, 144, .inl (fun _ => 0))), ((u0 9), .inr (2, [.ref (u0 10), .ref (u0 11), .int 0])), ((u0 10), .inl (k.2.1, 8, .inr (.inl (fun _ => 0)))), ((u0 11), .inl (k.2.1, 8, .inr (.inl (fun _ => 0)))), ((u0 12), .inr (3, [.ref (u0 13), .ref (u0 14), .int 0])), ((u0 13), .inl (k.1, 8, .inl (fun _ => 0))), ((u0 14), .inl (k.1, 8, .inl (fun _ => 0))), ((u0 15), .inr (4, [.ref (u0 16), .ref (u0 17), .ref (u0 18), .ref (u0 19), .ref (u0 20), .int 1000, .int 1000, .int 0, .int 0, .int 0])), ((u0 16), .inl (k.1, 40, .inl (fun _ => 0))), ((u0 17), .inl (k.1, 40, .inl (fun _ => 0))), ((u0 18), .inl (k.1, 40, .inl (fun _ => 0))), ((u0 19), .inl (k.1, 40, .inl (fun _ => 0))), ((u0 20), .inl (k.1, 40, .inl (fun _ => 0))), (o8, .inr (5, [.int 0, .int 0, .ref (u8 1), .ref (u8 2), .ref (u8 3), .ref (u8 4), .ref (u8 5), .ref (u8 6), .ref (u8 7), .int 0, .ref (u8 8), .ref (u8 9), .int 0, .ref (u8 10), .ref (u8 11), .int 1000, .int 1000, .int 0, .ref (u8 12), .ref (u8 13), .ref (u8 14), .ref (u8 15)])), ((u8 1), .inl (k.2.2, 12, .inl (fun _ => 0))), ((u8 2), .inl (k.1, 12, .inl (fun _ => 0))), ((u8 3), .inl (k.1, 12, .inl (fun _ => 0))), ((u8 4), .inl (k.1, 12, .inl (fun _ => 0))), ((u8 5), .inl (k.1, 72, .inl (fun _ => 0))), ((u8 6), .inl (k.1, 12, .inl (fun _ => 0))), ((u8 7), .inl (k.1, 12, .inl (fun _ => 0))), ((u8 8), .inl (k.1, 8, .inl (fun _ => 0))), ((u8 9), .inl (k.1, 8, .inl (fun _ => 0))), ((u8 10), .inl (k.1, 8, .inl (fun _ => 0))), ((u8 11), .inl (k.1, 8, .inl (fun _ => 0))), ((u8 12), .inl (k.1, 40, .inl (fun _ => 0))), ((u8 13), .inl (k.1, 40, .inl (fun _ => 0))), ((u8 14), .inl (k.1, 40, .inl (fun _ => 0))), ((u8 15), .inl (k.1, 40, .inl (fun _ => 0)))] := hD
  refine lv_astore_n (lv' := [(2, .ref o8), (1, .ref o0), (0, .ref b)]) hx hb dL_law_15 rfl hl (by decide) rfl (fun ls hl => ?_)
  refine lv_iconst (v := 1) hx hb dL_law_16 (by decide) ?_
  refine n_newa (atype := .long) (ty := .long) (cA := k.2.1) (a0 := (1, .inr (.inl (fun _ => 0)))) (N' := 1) 1 hx hb wAL hts rfl (Or.inr (Or.inl rfl)) hK rfl hP hD hS hA (fun _ => rfl) (by decide) (by decide) (by decide) (by decide) (by decide) dL_law_17 (fun q17 H hP hD hS => ?_)
  refine lv_astore_n (lv' := [(3, .ref q17), (2, .ref o8), (1, .ref o0), (0, .ref b)]) hx hb dL_law_19 rfl hl (by decide) rfl (fun ls hl => ?_)
  refine lv_iconst (v := 0) hx hb dL_law_20 (by decide) ?_
  refine lv_istore (lv' := [(4, .int 0), (3, .ref q17), (2, .ref o8), (1, .ref o0), (0, .ref b)]) hx hb dL_law_21 hl (by decide) rfl (fun ls hl => ?_)
  have hP : va_P D vwCl [(o0, .inr (0, [.ref (u0 1), .ref (u0 9), .ref (u0 12), .ref (u0 15)])), ((u0 1), .inr (1, [.ref (u0 2), .ref (u0 3), .ref (u0 4), .ref (u0 5), .ref (u0 6), .ref (u0 7), .ref (u0 8), .int 0])), ((u0 2), .inl (k.2.1, 12, .inr (.inl (fun _ => 0)))), ((u0 3), .inl (k.2.1, 12, .inr (.inl (fun _ => 0)))), ((u0 4), .inl (k.1, 12, .inl (fun _ => 0))), ((u0 5), .inl (k.1, 72, .inl (fun _ => 0))), ((u0 6), .inl (k.1, 72, .inl (fun _ => 0))), ((u0 7), .inl (k.1, 12, .inl (fun _ => 0))), ((u0 8), .inl (k.2.2, 144, .inl (fun _ => 0))), ((u0 9), .inr (2, [.ref (u0 10), .ref (u0 11), .int 0])), ((u0 10), .inl (k.2.1, 8, .inr (.inl (fun _ => 0)))), ((u0 11), .inl (k.2.1, 8, .inr (.inl (fun _ => 0)))), ((u0 12), .inr (3, [.ref (u0 13), .ref (u0 14), .int 0])), ((u0 13), .inl (k.1, 8, .inl (fun _ => 0))), ((u0 14), .inl (k.1, 8, .inl (fun _ => 0))), ((u0 15), .inr (4, [.ref (u0 16), .ref (u0 17), .ref (u0 18), .ref (u0 19), .ref (u0 20), .int 1000, .int 1000, .int 0, .int 0, .int 0])), ((u0 16), .inl (k.1, 40, .inl (fun _ => 0))), ((u0 17), .inl (k.1, 40, .inl (fun _ => 0))), ((u0 18), .inl (k.1, 40, .inl (fun _ => 0))), ((u0 19), .inl (k.1, 40, .inl (fun _ => 0))), ((u0 20), .inl (k.1, 40, .inl (fun _ => 0))), (q17, .inl (k.2.1, 1, .inr (.inl (fun _ => 0)))), (o8, .inr (5, [.int 0, .int 0, .ref (u8 1), .ref (u8 2), .ref (u8 3), .ref (u8 4), .ref (u8 5), .ref (u8 6), .ref (u8 7), .int 0, .ref (u8 8), .ref (u8 9), .int 0, .ref (u8 10), .ref (u8 11), .int 1000, .int 1000, .int 0, .ref (u8 12), .ref (u8 13), .ref (u8 14), .ref (u8 15)])), ((u8 1), .inl (k.2.2, 12, .inl (fun _ => 0))), ((u8 2), .inl (k.1, 12, .inl (fun _ => 0))), ((u8 3), .inl (k.1, 12, .inl (fun _ => 0))), ((u8 4), .inl (k.1, 12, .inl (fun _ => 0))), ((u8 5), .inl (k.1, 72, .inl (fun _ => 0))), ((u8 6), .inl (k.1, 12, .inl (fun _ => 0))), ((u8 7), .inl (k.1, 12, .inl (fun _ => 0))), ((u8 8), .inl (k.1, 8, .inl (fun _ => 0))), ((u8 9), .inl (k.1, 8, .inl (fun _ => 0))), ((u8 10), .inl (k.1, 8, .inl (fun _ => 0))), ((u8 11), .inl (k.1, 8, .inl (fun _ => 0))), ((u8 12), .inl (k.1, 40, .inl (fun _ => 0))), ((u8 13), .inl (k.1, 40, .inl (fun _ => 0))), ((u8 14), .inl (k.1, 40, .inl (fun _ => 0))), ((u8 15), .inl (k.1, 40, .inl (fun _ => 0)))] H := hP.sub [0, 1, 2, 3, 4, 5, 6, 7, 8, 9, 10, 11, 12, 13, 14, 15, 16, 17, 18, 19, 20, 37, 21, 22, 23, 24, 25, 26, 27, 28, 29, 30, 31, 32, 33, 34, 35, 36] rfl
  have hD : va_D (gF s.heap.size) [(o0, .inr (0, [.ref (u0 1), .ref (u0 9), .ref (u0 12), .ref (u0 15)])), ((u0 1), .inr (1, [.ref (u0 2), .ref (u0 3), .ref (u0 4), .ref (u0 5), .ref (u0 6), .ref (u0 7), .ref (u0 8), .int 0])), ((u0 2), .inl (k.2.1, 12, .inr (.inl (fun _ => 0)))), ((u0 3), .inl (k.2.1, 12, .inr (.inl (fun _ => 0)))), ((u0 4), .inl (k.1, 12, .inl (fun _ => 0))), ((u0 5), .inl (k.1, 72, .inl (fun _ => 0))), ((u0 6), .inl (k.1, 72, .inl (fun _ => 0))), ((u0 7), .inl (k.1, 12, .inl (fun _ => 0))), ((u0 8), .inl (k.2.2, 144, .inl (fun _ => 0))), ((u0 9), .inr (2, [.ref (u0 10), .ref (u0 11), .int 0])), ((u0 10), .inl (k.2.1, 8, .inr (.inl (fun _ => 0)))), ((u0 11), .inl (k.2.1, 8, .inr (.inl (fun _ => 0)))), ((u0 12), .inr (3, [.ref (u0 13), .ref (u0 14), .int 0])), ((u0 13), .inl (k.1, 8, .inl (fun _ => 0))), ((u0 14), .inl (k.1, 8, .inl (fun _ => 0))), ((u0 15), .inr (4, [.ref (u0 16), .ref (u0 17), .ref (u0 18), .ref (u0 19), .ref (u0 20), .int 1000, .int 1000, .int 0, .int 0, .int 0])), ((u0 16), .inl (k.1, 40, .inl (fun _ => 0))), ((u0 17), .inl (k.1, 40, .inl (fun _ => 0))), ((u0 18), .inl (k.1, 40, .inl (fun _ => 0))), ((u0 19), .inl (k.1, 40, .inl (fun _ => 0))), ((u0 20), .inl (k.1, 40, .inl (fun _ => 0))), (q17, .inl (k.2.1, 1, .inr (.inl (fun _ => 0)))), (o8, .inr (5, [.int 0, .int 0, .ref (u8 1), .ref (u8 2), .ref (u8 3), .ref (u8 4), .ref (u8 5), .ref (u8 6), .ref (u8 7), .int 0, .ref (u8 8), .ref (u8 9), .int 0, .ref (u8 10), .ref (u8 11), .int 1000, .int 1000, .int 0, .ref (u8 12), .ref (u8 13), .ref (u8 14), .ref (u8 15)])), ((u8 1), .inl (k.2.2, 12, .inl (fun _ => 0))), ((u8 2), .inl (k.1, 12, .inl (fun _ => 0))), ((u8 3), .inl (k.1, 12, .inl (fun _ => 0))), ((u8 4), .inl (k.1, 12, .inl (fun _ => 0))), ((u8 5), .inl (k.1, 72, .inl (fun _ => 0))), ((u8 6), .inl (k.1, 12, .inl (fun _ => 0))), ((u8 7), .inl (k.1, 12, .inl (fun _ => 0))), ((u8 8), .inl (k.1, 8, .inl (fun _ => 0))), ((u8 9), .inl (k.1, 8, .inl (fun _ => 0))), ((u8 10), .inl (k.1, 8, .inl (fun _ => 0))), ((u8 11), .inl (k.1, 8, .inl (fun _ => 0))), ((u8 12), .inl (k.1, 40, .inl (fun _ => 0))), ((u8 13), .inl (k.1, 40, .inl (fun _ => 0))), ((u8 14), .inl (k.1, 40, .inl (fun _ => 0))), ((u8 15), .inl (k.1, 40, .inl (fun _ => 0)))] := hD.sub [0, 1, 2, 3, 4, 5, 6, 7, 8, 9, 10, 11, 12, 13, 14, 15, 16, 17, 18, 19, 20, 37, 21, 22, 23, 24, 25, 26, 27, 28, 29, 30, 31, 32, 33, 34, 35, 36] (by decide) rfl
  obtain ⟨hG, hA9⟩ := g_of (0, .inr (0, [])) rfl hP hD
  refine law_loop hl9 hA9 hx hb hr hlocks hml hown hts hK hXS hX hbl hL L 0 _ H _ ls (by omega) (by omega) ?_ hG hS (lv_sub hl [4, 3, 2, 1, 0] rfl)
  exact ⟨0, 0, 0, 1000, 1000, 0, rfl, ⟨(fun _ => 0), rfl⟩, ⟨0, rfl⟩, ⟨(fun _ => 0), (fun _ => 0), (fun _ => 0), (fun _ => 0), (fun _ => 0), (fun _ => 0), (fun _ => 0), (fun _ => 0), (fun _ => 0), (fun _ => 0), (fun _ => 0), (fun _ => 0), (fun _ => 0), (fun _ => 0), ⟨rfl, rfl, rfl, rfl, rfl, rfl, rfl, rfl⟩, ⟨rfl, rfl, rfl, rfl, rfl, rfl, rfl⟩, relP_0 _ _ _ _ _ _ _ _ _ _⟩, ⟨(fun _ => 0), (fun _ => 0), (fun _ => 0), (fun _ => 0), ⟨rfl, rfl, rfl⟩, ⟨rfl, rfl⟩, relR_0 _ _ _ _⟩, ⟨(fun _ => 0), (fun _ => 0), (fun _ => 0), (fun _ => 0), ⟨rfl, rfl, rfl⟩, ⟨rfl, rfl⟩, relF_0 _ _ _ _⟩, ⟨0, 0, (fun _ => 0), (fun _ => 0), (fun _ => 0), (fun _ => 0), (fun _ => 0), (fun _ => 0), (fun _ => 0), (fun _ => 0), (fun _ => 0), ⟨rfl, rfl, rfl, rfl, rfl, rfl⟩, ⟨rfl, rfl, rfl, rfl⟩, relM_new wd_1000 wd_1000 _ _ _ _ _ _ _ _ _⟩⟩
set_option maxHeartbeats 4000000 in
theorem lw_walk (l : Launch) (hl9 : l.stackTraces = false) (b : Addr) (xs : List Int32) : MetFree l x (headSpec (Jvm.Cond.code x code maxLocals ret :: tables_1) room_1) (lw_P b xs) (fun _ _ _ _ _ => True) lw_Q := by
  refine MetFree.of_bodyS (code := code) (maxLocals := maxLocals) (ret := ret) (by decide) ?_ ?_
  · intro args s m h hn
    obtain ⟨meth, c, h1, h2, h3, h4, h5, h6, -, -⟩ := Cond.code_spec hn (atoms_spec (ws := Jvm.Cond.code x code maxLocals ret :: tables_1) h _ List.mem_cons_self)
    exact ⟨meth, c, h1, h2, h3, h4, h5, h6⟩
  · intro p e s m args below meth c s₁ B hml0 hP _
    obtain ⟨rfl, hx, hbd, hgv⟩ := hP
    obtain ⟨scr, harrAt, hlist, hof, hsmall⟩ := hx
    obtain ⟨hcb, hkn, -, -⟩ := State.arrayAt?_spec harrAt
    have hown : s.vm.findClass R_law = some m.cls := findClass_of_methodNamed B.named
    have hts0 : ∀ c ∈ (Jvm.Cond.code x code maxLocals ret :: tables_1), c.before #[Value.ref b] s = true := atoms_spec (ws := Jvm.Cond.code x code maxLocals ret :: tables_1) B.pre
    have hts : ∀ w ∈ lw_tbl, w.before #[Value.ref b] s = true := k2_hts_sels lw_privs (fun w hw => hts0 w (List.mem_cons_of_mem _ hw)) lw_privs_ok
    have hml : c.maxLocals = 8 := B.maxLocals_eq (hts0 _ List.mem_cons_self)
    have X₀ : Stand p l e room_1 s m #[Value.ref b] below meth c s₁ [] 0 0 := Stand.of_body B
    have hh0 : s₁.heap = s.heap := by rw [B.state]; rfl
    have hsz : scr.slots.size = xs.length := by rw [← Array.length_toList, hlist, List.length_map]
    have hval : ∀ j : Nat, j < xs.length → scr.slots[j]? = some (.int (xs.getD j 0)) := fun j hj => by
      rw [← Array.getElem?_toList, hlist]
      simp [hj]
    have hbl : b < s.heap.size := (Array.getElem?_eq_some_iff.mp hcb).1
    have hX : va_X b xs.length (fun j => xs.getD j 0) s s.heap := ⟨scr, hcb, hof, hkn, hsz, hval⟩
    have K : W p l e room_1 s m #[Value.ref b] below meth c s₁.heap [] 0 0 (lw_Z below #[Value.ref b] s) (entryFrame m ([Value.ref b] : List Value).toArray 8) := by
      rw [hh0]
      exact whole_start l hl9 hbd ⟨B.exec, B.bytes, B.returns, hml, hown, hts, hX, hbl, B.notSynchronized, hgv⟩
    obtain ⟨t, a1, o, b1, b2, b3⟩ := K s₁ rfl X₀
    exact ⟨t, o, a1, b1, b2, b3⟩
theorem lw_pre_spec {args : Array Value} {s : State} (h : (Jvm.Cond.and given_1 narrow_1).before args s = true) (hr : rest_1_c.before args s = true) : ∃ (b : Addr) (xs : List Int32), lw_P b xs args s := by
  have hs := flat_of_before _ h
  have hq := flat_of_before _ hr
  have hc : (Cond.count 1).before args s = true := hs _ (by decide +kernel)
  have harr : (Cond.arrayOf (.arg 0) .int).before args s = true := hs _ (by decide +kernel)
  have hle : (Cond.le (.length (.arg 0)) (.int 2048)).before args s = true := hs _ (by decide +kernel)
  have hlen : (Cond.isInt (.length (.arg 0))).before args s = true := hq _ (by decide +kernel)
  have hall : (Cond.all (.arg 0) (.isInt (.elem (.arg 0) (.index 0)))).before args s = true := hq _ (by decide +kernel)
  obtain ⟨b, xs, hb, hx⟩ := State.ints_of_pre rfl harr hlen hall
  have hsm : xs.length < 2 ^ 31 := hx.choose_spec.2.2.2
  have hev : (Term.length (.arg 0)).eval args s none [] s = some (.int xs.length.toInt32) := hx.length_eval hb
  have hv := Cond.le_ints hev (show (Term.int 2048).eval args s none [] s = some (.int 2048) from rfl)
  have hd : xs.length.toInt32 ≤ 2048 := by
    simpa [Cond.before, Cond.holds, hv] using hle
  have hN : xs.length ≤ 2048 := (Int32.ofNat_le_ofNat hsm (by decide)).mp (show Int32.ofNat xs.length ≤ Int32.ofNat 2048 from hd)
  exact ⟨b, xs, Cond.one_arg hc (show args[0]? = some (.ref b) from hb), hx, hN, h⟩
theorem lw_comes (l : Launch) (hl9 : l.stackTraces = false) : Comes l x (Jvm.Cond.code x code maxLocals ret :: tables_1) room_1 (fun tb e args s => Calls_1 tb e args s ∧ rest_1 tb e args s ∧ Pre_1 tb e args s)
    (fun _ _ args s o t => lw_Q args s o t) := by
  intro p e ha hc hk s m args below hf hfit hheap happ hpre
  obtain ⟨b, xs, hP⟩ := lw_pre_spec hpre.2.2 hpre.2.1
  obtain ⟨k, o, h1, h2, h3, hQ⟩ := lw_walk l hl9 b xs p e ha hc hk s m args below hf ((Spec.applies_iff_loose hf).mp happ).1 hP trivial
  exact ⟨k, o, h1, h2, h3, hQ⟩
theorem lw_frame {s t : State} {o : Outcome} {args : Array Value} (h : Framed s o t [] 1087 9297) :
    Framed s o t (fieldLocs frame_1_writes args s ++ arrayLocs frame_1_arrays args s ++ staticLocs frame_1_statics s) 1087 9297 := h
theorem lw_limb (L : Cond) (hL : ∀ (args : Array Value) (s t : State), L.after args s (.returned (some (.int 1))) t = true) :
    ArmFor flags0 classFile x code maxLocals ret World_1 tables_1 room_1 Calls_1 rest_1 Pre_1
      (fun tb e a s o t => postC L tb e a s o t ∧ Framed s o t (fieldLocs frame_1_writes a s ++ arrayLocs frame_1_arrays a s ++ staticLocs frame_1_statics s) 1087 9297) := by
  intro l h9 _ _ p e ha hc hk s m args below hf hfit hheap happ hpre
  obtain ⟨k, o, h1, h2, h3, rfl, hF⟩ := lw_comes l (by unfold Launch.stackTraces; rw [h9]; decide) p e ha hc hk s m args below hf hfit hheap happ hpre
  exact ⟨k, _, h1, h2, h3, hL args s _, lw_frame hF⟩
theorem i_vc : Claimed_1_1 ∧ Claimed_1_2 := ⟨lw_limb limb_1_1 (fun args s t => by simp [limb_1_1, Cond.after, Cond.holds, Cond.value]), lw_limb limb_1_2 (fun args s t => Cond.after_iff.mpr (by
  first | (rw [show limb_1_2 = Cond.eq .result (.int 1) from rfl, Cond.eq_ints (x := 1) (y := 1) rfl rfl]; simp; done) | (simp [limb_1_2, Cond.value, Term.eval]; done)))⟩
