abbrev rmM_putOn_o : Room := { frames := 1, cells := 0, slots := 0, locals := 21 }
set_option maxRecDepth 100000 in
set_option maxHeartbeats 4000000 in
theorem kM_putOn_o {l : Launch} {D : va_G} {k : ClassId × ClassId × ClassId} {a : Nat → Nat} {B0 : Nat} {w : Nat → va_E} (hA : gA B0 a) {bw : Int32} {bd : Int32} {bu : Int32} {nt : Nat} {ns : Nat} {tw : Nat → Int32} {td : Nat → Int32} {sb : Nat → Int32} {sd : Nat → Int32} {su : Nat → Int32} (hsM : sM k a w bw bd bu nt ns tw td sb sd su) (i : Nat) (x : Int32) (y : Int32) (hi : i < ns) (hns : ns ≤ 40) (hnt : nt < 40) : Met l yM_putOn (tbw yM_putOn cM_putOn 5 (some .int)) rmM_putOn_o (gPc D k a B0 w [.ref (a 15), .int (nI i), .int x, .int y]) (va_Qi (fun rr9 w1 => rr9 = (nI nt) ∧ (sM k a w1 bw bd bu (nt + 1) ns (upd tw nt (su i)) (upd td nt (sb i)) sb sd (upd su i (su i + x))) ∧ ∀ z, z < 15 ∨ 20 < z → w1 z = w z) (gB D k a) (gF B0)) 0 0 (gF B0) := by
  obtain ⟨hsM15, hsM16, hsM17, hsM18, hsM19, hsM20⟩ := hsM
  refine g_ofW (by decide) rfl (fun p e s m args below meth c Q hQ hx hb hr hlk hml hown hts hB hG hK hS ls hl => ?_)
  have hl : lv_has ls 5 [(0, .ref (a 15)), (1, .int (nI i)), (2, .int x), (3, .int y)] := hl
  have hown : s.vm.findClass RM = some m.cls := hown
  have hfr0 : ∀ z, z < 15 ∨ 20 < z → w z = w z := fun _ _ => rfl
  refine lv_iload_n hx hb dM_putOn_0 rfl (lv_at hl 1 rfl) ?_
  refine lv_aload_n hx hb dM_putOn_1 rfl (lv_at hl 0 rfl) ?_
  refine g_get hx hb hts inM hown hK hG 15 (by decide) hsM15 rfl 9 (by decide) lkM_40 rfl dM_putOn_2 ?_
  refine ln_icmp_ne (x := i) (y := ns) (tgt := 13) hx hb dM_putOn_5 (by decide) (by omega) (by omega) (fun c1 => ?_) (fun c1 => ?_)
  · refine lv_aload_n hx hb dM_putOn_13 rfl (lv_at hl 0 rfl) ?_
    refine g_get hx hb hts inM hown hK hG 15 (by decide) hsM15 rfl 8 (by decide) lkM_37 rfl dM_putOn_14 ?_
    refine lv_istore (lv' := [(4, .int (nI nt)), (0, .ref (a 15)), (1, .int (nI i)), (2, .int x), (3, .int y)]) hx hb dM_putOn_17 hl (by decide) rfl (fun ls hl => ?_)
    refine lv_aload_n hx hb dM_putOn_19 rfl (lv_at hl 1 rfl) ?_
    refine lv_dup hx hb dM_putOn_20 rfl ?_
    refine g_get hx hb hts inM hown hK hG 15 (by decide) hsM15 rfl 8 (by decide) lkM_37 rfl dM_putOn_21 ?_
    refine lv_iconst (v := 1) hx hb dM_putOn_24 (by decide) ?_
    refine ln_iadd (x := nt) (y := 1) hx hb dM_putOn_25 ?_
    refine g_put hx hb hts inM tyM tokM nokM hown hK hA hG hS 15 (by decide) hsM15 rfl 8 (by decide) lkM_37 rfl (ty := .int) (by decide +kernel) rfl rfl (Nat.le_of_ble_eq_true rfl) dM_putOn_26 (fun H locs hG hS => ?_)
    obtain ⟨w2, hw3⟩ : ∃ zz9, zz9 = va_up w 15 (.inr (4, [.ref (a 16), .ref (a 17), .ref (a 18), .ref (a 19), .ref (a 20), .int bw, .int bd, .int bu, .int (nI (nt + 1)), .int (nI ns)])) := ⟨_, rfl⟩
    replace hG : gW D a w2 H := by rw [hw3]; exact hG
    have h4 : w2 15 = .inr (4, [.ref (a 16), .ref (a 17), .ref (a 18), .ref (a 19), .ref (a 20), .int bw, .int bd, .int bu, .int (nI (nt + 1)), .int (nI ns)]) := by rw [hw3]; rfl
    have h5 : w2 16 = .inl (k.1, 40, .inl tw) := by rw [hw3]; exact hsM16
    have h6 : w2 17 = .inl (k.1, 40, .inl td) := by rw [hw3]; exact hsM17
    have h7 : w2 18 = .inl (k.1, 40, .inl sb) := by rw [hw3]; exact hsM18
    have h8 : w2 19 = .inl (k.1, 40, .inl sd) := by rw [hw3]; exact hsM19
    have h9 : w2 20 = .inl (k.1, 40, .inl su) := by rw [hw3]; exact hsM20
    have hfr10 : ∀ z, z < 15 ∨ 20 < z → w2 z = w z := fun z hz => by rw [hw3]; exact (va_up_ne _ _ (by omega)).trans (hfr0 z hz)
    refine lv_aload_n hx hb dM_putOn_29 rfl (lv_at hl 1 rfl) ?_
    refine g_get hx hb hts inM hown hK hG 15 (by decide) h4 rfl 0 (by decide) lkM_9 rfl dM_putOn_30 ?_
    refine lv_iload hx hb dM_putOn_33 (lv_at hl 0 rfl) ?_
    refine lv_aload_n hx hb dM_putOn_35 rfl (lv_at hl 1 rfl) ?_
    refine g_get hx hb hts inM hown hK hG 15 (by decide) h4 rfl 4 (by decide) lkM_24 rfl dM_putOn_36 ?_
    refine lv_iload_n hx hb dM_putOn_39 rfl (lv_at hl 2 rfl) ?_
    refine g_iald hx hb hK hG 20 (by decide) h9 (j := i) (by omega) (by decide) dM_putOn_40 ?_
    refine g_iast hx hb hK hA hG hS 16 (by decide) h5 (j := nt) (by omega) (by decide) dM_putOn_41 (fun H locs hG hS => ?_)
    obtain ⟨w11, hw12⟩ : ∃ zz9, zz9 = va_up w2 16 (.inl (k.1, 40, .inl (upd tw nt (su i)))) := ⟨_, rfl⟩
    replace hG : gW D a w11 H := by rw [hw12]; exact hG
    have h13 : w11 15 = .inr (4, [.ref (a 16), .ref (a 17), .ref (a 18), .ref (a 19), .ref (a 20), .int bw, .int bd, .int bu, .int (nI (nt + 1)), .int (nI ns)]) := by rw [hw12]; exact h4
    have h14 : w11 16 = .inl (k.1, 40, .inl (upd tw nt (su i))) := by rw [hw12]; rfl
    have h15 : w11 17 = .inl (k.1, 40, .inl td) := by rw [hw12]; exact h6
    have h16 : w11 18 = .inl (k.1, 40, .inl sb) := by rw [hw12]; exact h7
    have h17 : w11 19 = .inl (k.1, 40, .inl sd) := by rw [hw12]; exact h8
    have h18 : w11 20 = .inl (k.1, 40, .inl su) := by rw [hw12]; exact h9
    have hfr19 : ∀ z, z < 15 ∨ 20 < z → w11 z = w z := fun z hz => by rw [hw12]; exact (va_up_ne _ _ (by omega)).trans (hfr10 z hz)
    refine lv_aload_n hx hb dM_putOn_42 rfl (lv_at hl 1 rfl) ?_
    refine g_get hx hb hts inM hown hK hG 15 (by decide) h13 rfl 1 (by decide) lkM_15 rfl dM_putOn_43 ?_
    refine lv_iload hx hb dM_putOn_46 (lv_at hl 0 rfl) ?_
    refine lv_aload_n hx hb dM_putOn_48 rfl (lv_at hl 1 rfl) ?_
    refine g_get hx hb hts inM hown hK hG 15 (by decide) h13 rfl 2 (by decide) lkM_18 rfl dM_putOn_49 ?_
    refine lv_iload_n hx hb dM_putOn_52 rfl (lv_at hl 2 rfl) ?_
    refine g_iald hx hb hK hG 18 (by decide) h16 (j := i) (by omega) (by decide) dM_putOn_53 ?_
    refine g_iast hx hb hK hA hG hS 17 (by decide) h15 (j := nt) (by omega) (by decide) dM_putOn_54 (fun H locs hG hS => ?_)
    obtain ⟨w20, hw21⟩ : ∃ zz9, zz9 = va_up w11 17 (.inl (k.1, 40, .inl (upd td nt (sb i)))) := ⟨_, rfl⟩
    replace hG : gW D a w20 H := by rw [hw21]; exact hG
    have h22 : w20 15 = .inr (4, [.ref (a 16), .ref (a 17), .ref (a 18), .ref (a 19), .ref (a 20), .int bw, .int bd, .int bu, .int (nI (nt + 1)), .int (nI ns)]) := by rw [hw21]; exact h13
    have h23 : w20 16 = .inl (k.1, 40, .inl (upd tw nt (su i))) := by rw [hw21]; exact h14
    have h24 : w20 17 = .inl (k.1, 40, .inl (upd td nt (sb i))) := by rw [hw21]; rfl
    have h25 : w20 18 = .inl (k.1, 40, .inl sb) := by rw [hw21]; exact h16
    have h26 : w20 19 = .inl (k.1, 40, .inl sd) := by rw [hw21]; exact h17
    have h27 : w20 20 = .inl (k.1, 40, .inl su) := by rw [hw21]; exact h18
    have hfr28 : ∀ z, z < 15 ∨ 20 < z → w20 z = w z := fun z hz => by rw [hw21]; exact (va_up_ne _ _ (by omega)).trans (hfr19 z hz)
    refine lv_aload_n hx hb dM_putOn_55 rfl (lv_at hl 1 rfl) ?_
    refine g_get hx hb hts inM hown hK hG 15 (by decide) h22 rfl 4 (by decide) lkM_24 rfl dM_putOn_56 ?_
    refine lv_iload_n hx hb dM_putOn_59 rfl (lv_at hl 2 rfl) ?_
    refine lv_dup2_11 hx hb dM_putOn_60 rfl rfl ?_
    refine g_iald hx hb hK hG 20 (by decide) h27 (j := i) (by omega) (by decide) dM_putOn_61 ?_
    refine lv_iload_n hx hb dM_putOn_62 rfl (lv_at hl 3 rfl) ?_
    refine lv_iadd hx hb dM_putOn_63 ?_
    refine g_iast hx hb hK hA hG hS 20 (by decide) h27 (j := i) (by omega) (by decide) dM_putOn_64 (fun H locs hG hS => ?_)
    obtain ⟨w29, hw30⟩ : ∃ zz9, zz9 = va_up w20 20 (.inl (k.1, 40, .inl (upd su i ((su i) + x)))) := ⟨_, rfl⟩
    replace hG : gW D a w29 H := by rw [hw30]; exact hG
    have h31 : w29 15 = .inr (4, [.ref (a 16), .ref (a 17), .ref (a 18), .ref (a 19), .ref (a 20), .int bw, .int bd, .int bu, .int (nI (nt + 1)), .int (nI ns)]) := by rw [hw30]; exact h22
    have h32 : w29 16 = .inl (k.1, 40, .inl (upd tw nt (su i))) := by rw [hw30]; exact h23
    have h33 : w29 17 = .inl (k.1, 40, .inl (upd td nt (sb i))) := by rw [hw30]; exact h24
    have h34 : w29 18 = .inl (k.1, 40, .inl sb) := by rw [hw30]; exact h25
    have h35 : w29 19 = .inl (k.1, 40, .inl sd) := by rw [hw30]; exact h26
    have h36 : w29 20 = .inl (k.1, 40, .inl (upd su i ((su i) + x))) := by rw [hw30]; rfl
    have hfr37 : ∀ z, z < 15 ∨ 20 < z → w29 z = w z := fun z hz => by rw [hw30]; exact (va_up_ne _ _ (by omega)).trans (hfr28 z hz)
    refine lv_iload hx hb dM_putOn_65 (lv_at hl 0 rfl) ?_
    exact g_iret hQ hx hb hr hlk hG hK hS (by decide) (by decide) ⟨by first | rfl | omega | (simp_all; done) | grind, ⟨h31, h32, h33, h34, h35, h36⟩, hfr37⟩ dM_putOn_67
  · exact absurd c1 (by omega)

abbrev rmM_putOn_n : Room := { frames := 1, cells := 0, slots := 0, locals := 21 }
set_option maxRecDepth 100000 in
set_option maxHeartbeats 4000000 in
theorem kM_putOn_n {l : Launch} {D : va_G} {k : ClassId × ClassId × ClassId} {a : Nat → Nat} {B0 : Nat} {w : Nat → va_E} (hA : gA B0 a) {bw : Int32} {bd : Int32} {bu : Int32} {nt : Nat} {ns : Nat} {tw : Nat → Int32} {td : Nat → Int32} {sb : Nat → Int32} {sd : Nat → Int32} {su : Nat → Int32} (hsM : sM k a w bw bd bu nt ns tw td sb sd su) (i : Nat) (x : Int32) (y : Int32) (hi : i = ns) (hns : ns < 40) (hnt : nt < 40) : Met l yM_putOn (tbw yM_putOn cM_putOn 5 (some .int)) rmM_putOn_n (gPc D k a B0 w [.ref (a 15), .int (nI i), .int x, .int y]) (va_Qi (fun rr9 w1 => rr9 = (nI nt) ∧ (sM k a w1 bw bd (bu + y) (nt + 1) (ns + 1) (upd tw nt (upd su ns 0 i)) (upd td nt (upd sb ns bu i)) (upd sb ns bu) (upd sd ns y) (upd (upd su ns 0) i (upd su ns 0 i + x))) ∧ ∀ z, z < 15 ∨ 20 < z → w1 z = w z) (gB D k a) (gF B0)) 0 0 (gF B0) := by
  obtain ⟨hsM15, hsM16, hsM17, hsM18, hsM19, hsM20⟩ := hsM
  refine g_ofW (by decide) rfl (fun p e s m args below meth c Q hQ hx hb hr hlk hml hown hts hB hG hK hS ls hl => ?_)
  have hl : lv_has ls 5 [(0, .ref (a 15)), (1, .int (nI i)), (2, .int x), (3, .int y)] := hl
  have hown : s.vm.findClass RM = some m.cls := hown
  have hfr0 : ∀ z, z < 15 ∨ 20 < z → w z = w z := fun _ _ => rfl
  refine lv_iload_n hx hb dM_putOn_0 rfl (lv_at hl 1 rfl) ?_
  refine lv_aload_n hx hb dM_putOn_1 rfl (lv_at hl 0 rfl) ?_
  refine g_get hx hb hts inM hown hK hG 15 (by decide) hsM15 rfl 9 (by decide) lkM_40 rfl dM_putOn_2 ?_
  refine ln_icmp_ne (x := i) (y := ns) (tgt := 13) hx hb dM_putOn_5 (by decide) (by omega) (by omega) (fun c1 => ?_) (fun c1 => ?_)
  · exact absurd hi c1
  · refine lv_aload_n hx hb dM_putOn_8 rfl (lv_at hl 0 rfl) ?_
    refine lv_iload_n hx hb dM_putOn_9 rfl (lv_at hl 3 rfl) ?_
    refine g_Vv (i := 15) (As := [.int y]) (rest := []) (kM_openShelf hA ⟨hsM15, hsM16, hsM17, hsM18, hsM19, hsM20⟩ y (by omega)) calM_openShelf cvM_openShelf mlM_43 hx hb hml hown hts hB hG hK hS (by decide) hsM15 rfl ⟨by decide, by decide⟩ rfl hl.1 rfl (Nat.le_of_ble_eq_true rfl) dM_putOn_10 ⟨by decide, by decide⟩ (fun w3 H locs hp4 hG hS => ?_)
    obtain ⟨⟨h5, h6, h7, h8, h9, h10⟩, hfr12⟩ := hp4
    have hfr13 : ∀ z, z < 15 ∨ 20 < z → w3 z = w z := fun z hz => (hfr12 z (by omega)).trans (hfr0 z hz)
    refine lv_aload_n hx hb dM_putOn_13 rfl (lv_at hl 0 rfl) ?_
    refine g_get hx hb hts inM hown hK hG 15 (by decide) h5 rfl 8 (by decide) lkM_37 rfl dM_putOn_14 ?_
    refine lv_istore (lv' := [(4, .int (nI nt)), (0, .ref (a 15)), (1, .int (nI i)), (2, .int x), (3, .int y)]) hx hb dM_putOn_17 hl (by decide) rfl (fun ls hl => ?_)
    refine lv_aload_n hx hb dM_putOn_19 rfl (lv_at hl 1 rfl) ?_
    refine lv_dup hx hb dM_putOn_20 rfl ?_
    refine g_get hx hb hts inM hown hK hG 15 (by decide) h5 rfl 8 (by decide) lkM_37 rfl dM_putOn_21 ?_
    refine lv_iconst (v := 1) hx hb dM_putOn_24 (by decide) ?_
    refine ln_iadd (x := nt) (y := 1) hx hb dM_putOn_25 ?_
    refine g_put hx hb hts inM tyM tokM nokM hown hK hA hG hS 15 (by decide) h5 rfl 8 (by decide) lkM_37 rfl (ty := .int) (by decide +kernel) rfl rfl (Nat.le_of_ble_eq_true rfl) dM_putOn_26 (fun H locs hG hS => ?_)
    obtain ⟨w14, hw15⟩ : ∃ zz9, zz9 = va_up w3 15 (.inr (4, [.ref (a 16), .ref (a 17), .ref (a 18), .ref (a 19), .ref (a 20), .int bw, .int bd, .int (bu + y), .int (nI (nt + 1)), .int (nI (ns + 1))])) := ⟨_, rfl⟩
    replace hG : gW D a w14 H := by rw [hw15]; exact hG
    have h16 : w14 15 = .inr (4, [.ref (a 16), .ref (a 17), .ref (a 18), .ref (a 19), .ref (a 20), .int bw, .int bd, .int (bu + y), .int (nI (nt + 1)), .int (nI (ns + 1))]) := by rw [hw15]; rfl
    have h17 : w14 16 = .inl (k.1, 40, .inl tw) := by rw [hw15]; exact h6
    have h18 : w14 17 = .inl (k.1, 40, .inl td) := by rw [hw15]; exact h7
    have h19 : w14 18 = .inl (k.1, 40, .inl (upd sb ns bu)) := by rw [hw15]; exact h8
    have h20 : w14 19 = .inl (k.1, 40, .inl (upd sd ns y)) := by rw [hw15]; exact h9
    have h21 : w14 20 = .inl (k.1, 40, .inl (upd su ns 0)) := by rw [hw15]; exact h10
    have hfr22 : ∀ z, z < 15 ∨ 20 < z → w14 z = w z := fun z hz => by rw [hw15]; exact (va_up_ne _ _ (by omega)).trans (hfr13 z hz)
    refine lv_aload_n hx hb dM_putOn_29 rfl (lv_at hl 1 rfl) ?_
    refine g_get hx hb hts inM hown hK hG 15 (by decide) h16 rfl 0 (by decide) lkM_9 rfl dM_putOn_30 ?_
    refine lv_iload hx hb dM_putOn_33 (lv_at hl 0 rfl) ?_
    refine lv_aload_n hx hb dM_putOn_35 rfl (lv_at hl 1 rfl) ?_
    refine g_get hx hb hts inM hown hK hG 15 (by decide) h16 rfl 4 (by decide) lkM_24 rfl dM_putOn_36 ?_
    refine lv_iload_n hx hb dM_putOn_39 rfl (lv_at hl 2 rfl) ?_
    refine g_iald hx hb hK hG 20 (by decide) h21 (j := i) (by omega) (by decide) dM_putOn_40 ?_
    refine g_iast hx hb hK hA hG hS 16 (by decide) h17 (j := nt) (by omega) (by decide) dM_putOn_41 (fun H locs hG hS => ?_)
    obtain ⟨w23, hw24⟩ : ∃ zz9, zz9 = va_up w14 16 (.inl (k.1, 40, .inl (upd tw nt ((upd su ns 0) i)))) := ⟨_, rfl⟩
    replace hG : gW D a w23 H := by rw [hw24]; exact hG
    have h25 : w23 15 = .inr (4, [.ref (a 16), .ref (a 17), .ref (a 18), .ref (a 19), .ref (a 20), .int bw, .int bd, .int (bu + y), .int (nI (nt + 1)), .int (nI (ns + 1))]) := by rw [hw24]; exact h16
    have h26 : w23 16 = .inl (k.1, 40, .inl (upd tw nt ((upd su ns 0) i))) := by rw [hw24]; rfl
    have h27 : w23 17 = .inl (k.1, 40, .inl td) := by rw [hw24]; exact h18
    have h28 : w23 18 = .inl (k.1, 40, .inl (upd sb ns bu)) := by rw [hw24]; exact h19
    have h29 : w23 19 = .inl (k.1, 40, .inl (upd sd ns y)) := by rw [hw24]; exact h20
    have h30 : w23 20 = .inl (k.1, 40, .inl (upd su ns 0)) := by rw [hw24]; exact h21
    have hfr31 : ∀ z, z < 15 ∨ 20 < z → w23 z = w z := fun z hz => by rw [hw24]; exact (va_up_ne _ _ (by omega)).trans (hfr22 z hz)
    refine lv_aload_n hx hb dM_putOn_42 rfl (lv_at hl 1 rfl) ?_
    refine g_get hx hb hts inM hown hK hG 15 (by decide) h25 rfl 1 (by decide) lkM_15 rfl dM_putOn_43 ?_
    refine lv_iload hx hb dM_putOn_46 (lv_at hl 0 rfl) ?_
    refine lv_aload_n hx hb dM_putOn_48 rfl (lv_at hl 1 rfl) ?_
    refine g_get hx hb hts inM hown hK hG 15 (by decide) h25 rfl 2 (by decide) lkM_18 rfl dM_putOn_49 ?_
    refine lv_iload_n hx hb dM_putOn_52 rfl (lv_at hl 2 rfl) ?_
    refine g_iald hx hb hK hG 18 (by decide) h28 (j := i) (by omega) (by decide) dM_putOn_53 ?_
    refine g_iast hx hb hK hA hG hS 17 (by decide) h27 (j := nt) (by omega) (by decide) dM_putOn_54 (fun H locs hG hS => ?_)
    obtain ⟨w32, hw33⟩ : ∃ zz9, zz9 = va_up w23 17 (.inl (k.1, 40, .inl (upd td nt ((upd sb ns bu) i)))) := ⟨_, rfl⟩
    replace hG : gW D a w32 H := by rw [hw33]; exact hG
    have h34 : w32 15 = .inr (4, [.ref (a 16), .ref (a 17), .ref (a 18), .ref (a 19), .ref (a 20), .int bw, .int bd, .int (bu + y), .int (nI (nt + 1)), .int (nI (ns + 1))]) := by rw [hw33]; exact h25
    have h35 : w32 16 = .inl (k.1, 40, .inl (upd tw nt ((upd su ns 0) i))) := by rw [hw33]; exact h26
    have h36 : w32 17 = .inl (k.1, 40, .inl (upd td nt ((upd sb ns bu) i))) := by rw [hw33]; rfl
    have h37 : w32 18 = .inl (k.1, 40, .inl (upd sb ns bu)) := by rw [hw33]; exact h28
    have h38 : w32 19 = .inl (k.1, 40, .inl (upd sd ns y)) := by rw [hw33]; exact h29
    have h39 : w32 20 = .inl (k.1, 40, .inl (upd su ns 0)) := by rw [hw33]; exact h30
    have hfr40 : ∀ z, z < 15 ∨ 20 < z → w32 z = w z := fun z hz => by rw [hw33]; exact (va_up_ne _ _ (by omega)).trans (hfr31 z hz)
    refine lv_aload_n hx hb dM_putOn_55 rfl (lv_at hl 1 rfl) ?_
    refine g_get hx hb hts inM hown hK hG 15 (by decide) h34 rfl 4 (by decide) lkM_24 rfl dM_putOn_56 ?_
    refine lv_iload_n hx hb dM_putOn_59 rfl (lv_at hl 2 rfl) ?_
    refine lv_dup2_11 hx hb dM_putOn_60 rfl rfl ?_
    refine g_iald hx hb hK hG 20 (by decide) h39 (j := i) (by omega) (by decide) dM_putOn_61 ?_
    refine lv_iload_n hx hb dM_putOn_62 rfl (lv_at hl 3 rfl) ?_
    refine lv_iadd hx hb dM_putOn_63 ?_
    refine g_iast hx hb hK hA hG hS 20 (by decide) h39 (j := i) (by omega) (by decide) dM_putOn_64 (fun H locs hG hS => ?_)
    obtain ⟨w41, hw42⟩ : ∃ zz9, zz9 = va_up w32 20 (.inl (k.1, 40, .inl (upd (upd su ns 0) i (((upd su ns 0) i) + x)))) := ⟨_, rfl⟩
    replace hG : gW D a w41 H := by rw [hw42]; exact hG
    have h43 : w41 15 = .inr (4, [.ref (a 16), .ref (a 17), .ref (a 18), .ref (a 19), .ref (a 20), .int bw, .int bd, .int (bu + y), .int (nI (nt + 1)), .int (nI (ns + 1))]) := by rw [hw42]; exact h34
    have h44 : w41 16 = .inl (k.1, 40, .inl (upd tw nt ((upd su ns 0) i))) := by rw [hw42]; exact h35
    have h45 : w41 17 = .inl (k.1, 40, .inl (upd td nt ((upd sb ns bu) i))) := by rw [hw42]; exact h36
    have h46 : w41 18 = .inl (k.1, 40, .inl (upd sb ns bu)) := by rw [hw42]; exact h37
    have h47 : w41 19 = .inl (k.1, 40, .inl (upd sd ns y)) := by rw [hw42]; exact h38
    have h48 : w41 20 = .inl (k.1, 40, .inl (upd (upd su ns 0) i (((upd su ns 0) i) + x))) := by rw [hw42]; rfl
    have hfr49 : ∀ z, z < 15 ∨ 20 < z → w41 z = w z := fun z hz => by rw [hw42]; exact (va_up_ne _ _ (by omega)).trans (hfr40 z hz)
    refine lv_iload hx hb dM_putOn_65 (lv_at hl 0 rfl) ?_
    exact g_iret hQ hx hb hr hlk hG hK hS (by decide) (by decide) ⟨by first | rfl | omega | (simp_all; done) | grind, ⟨h43, h44, h45, h46, h47, h48⟩, hfr49⟩ dM_putOn_67

abbrev rmX_greatestDivisor : Room := { frames := 0, cells := 0, slots := 0, locals := 0 }
set_option maxRecDepth 100000 in
set_option maxHeartbeats 4000000 in
theorem kX_greatestDivisor {l : Launch} {D : va_G} {k : ClassId × ClassId × ClassId} {a : Nat → Nat} {B0 : Nat} {w : Nat → va_E} (hA : gA B0 a)  (u : Int64) (v : Int64) : Met l yX_greatestDivisor (tbw yX_greatestDivisor cX_greatestDivisor 11 (some .long)) rmX_greatestDivisor (gPc D k a B0 w [.long u, .long v]) (va_Ql (roP (gcF 100 u v) w) (gB D k a) (gF B0)) 0 0 (gF B0) := by
  refine g_ofW (by decide) rfl (fun p e s m args below meth c Q hQ hx hb hr hlk hml hown hts hB hG hK hS ls hl => ?_)
  have hl : lv_has ls 11 [(0, .long u), (2, .long v)] := hl
  have hown : s.vm.findClass RX = some m.cls := hown
  refine lv_lload_n hx hb dX_greatestDivisor_0 rfl (lv_at hl 0 rfl) ?_
  refine lv_lstore (lv' := [(4, .long u), (0, .long u), (2, .long v)]) hx hb dX_greatestDivisor_1 hl (by decide) rfl (fun ls hl => ?_)
  refine lv_lload_n hx hb dX_greatestDivisor_3 rfl (lv_at hl 2 rfl) ?_
  refine lv_lstore (lv' := [(6, .long v), (4, .long u), (0, .long u), (2, .long v)]) hx hb dX_greatestDivisor_4 hl (by decide) rfl (fun ls hl => ?_)
  refine lv_iconst (v := 0) hx hb dX_greatestDivisor_6 (by decide) ?_
  refine lv_istore (lv' := [(8, .int 0), (6, .long v), (4, .long u), (0, .long u), (2, .long v)]) hx hb dX_greatestDivisor_7 hl (by decide) rfl (fun ls hl => ?_)
  have loop9 : ∀ (k9 : Nat) (x : Int64) (y : Int64) (i : Nat) (hi : i + k9 = 100) (hres : gcF k9 x y = gcF 100 u v) (H : Heap) (locs : List Loc) (ls : Array Slot), gW D a w H → va_S (gF B0) s.heap H locs → lv_has ls 11 [(0, .long u), (2, .long v), (4, .long x), (6, .long y), (8, .int (nI i))] → W p l e rmX_greatestDivisor s m args below meth c H locs 0 0 Q (F0 m 9 ls []) := by
    intro k9
    induction k9 using Nat.strongRecOn with
    | _ k9 ih9 =>
      intro x y i hi hres H locs ls hG hS hl
      refine lv_iload hx hb dX_greatestDivisor_9 (lv_at hl 4 rfl) ?_
      refine lv_bipush (v := 100) hx hb dX_greatestDivisor_11 (by decide) ?_
      refine ln_icmp_ge (x := i) (y := 100) (tgt := 44) hx hb dX_greatestDivisor_13 (by decide) (by omega) (by decide) (fun c1 => ?_) (fun c1 => ?_)
      · obtain rfl : k9 = 0 := by omega
        refine lv_lload hx hb dX_greatestDivisor_44 (lv_at hl 2 rfl) ?_
        exact g_lret hQ hx hb hr hlk hG hK hS (by decide) (by decide) ⟨by first | exact hres | (rw [← hres]; exact (gcF_e (by assumption)).symm), rfl⟩ dX_greatestDivisor_46
      · obtain ⟨k8, rfl⟩ : ∃ z, k9 = z + 1 := ⟨k9 - 1, by omega⟩
        refine lv_lload hx hb dX_greatestDivisor_16 (lv_at hl 3 rfl) ?_
        refine lv_lconst (v := 0) hx hb dX_greatestDivisor_18 (by decide) ?_
        refine W.lcmp hx hb dX_greatestDivisor_19 ?_
        refine lc_if_eq (tgt := 44) hx hb dX_greatestDivisor_20 (by decide) (fun c2 => ?_) (fun c2 => ?_)
        · refine lv_lload hx hb dX_greatestDivisor_44 (lv_at hl 2 rfl) ?_
          exact g_lret hQ hx hb hr hlk hG hK hS (by decide) (by decide) ⟨by first | exact hres | (rw [← hres]; exact (gcF_e (by assumption)).symm), rfl⟩ dX_greatestDivisor_46
        · refine lv_lload hx hb dX_greatestDivisor_23 (lv_at hl 2 rfl) ?_
          refine lv_lload hx hb dX_greatestDivisor_25 (lv_at hl 3 rfl) ?_
          refine lv_lrem hx hb dX_greatestDivisor_27 (by assumption) ?_
          refine lv_lstore (lv' := [(9, .long (x - x / y * y)), (0, .long u), (2, .long v), (4, .long x), (6, .long y), (8, .int (nI i))]) hx hb dX_greatestDivisor_28 hl (by decide) rfl (fun ls hl => ?_)
          refine lv_lload hx hb dX_greatestDivisor_30 (lv_at hl 4 rfl) ?_
          refine lv_lstore (lv' := [(4, .long y), (9, .long (x - x / y * y)), (0, .long u), (2, .long v), (6, .long y), (8, .int (nI i))]) hx hb dX_greatestDivisor_32 hl (by decide) rfl (fun ls hl => ?_)
          refine lv_lload hx hb dX_greatestDivisor_34 (lv_at hl 1 rfl) ?_
          refine lv_lstore (lv' := [(6, .long (x - x / y * y)), (4, .long y), (9, .long (x - x / y * y)), (0, .long u), (2, .long v), (8, .int (nI i))]) hx hb dX_greatestDivisor_36 hl (by decide) rfl (fun ls hl => ?_)
          refine lv_iinc (v := (nI (i + 1))) (lv' := [(8, .int (nI (i + 1))), (6, .long (x - x / y * y)), (4, .long y), (9, .long (x - x / y * y)), (0, .long u), (2, .long v)]) hx hb dX_greatestDivisor_38 hl (k := 5) rfl (nI_add i 1) (by decide) rfl (fun ls hl => ?_)
          refine lv_goto (tgt := 9) hx hb dX_greatestDivisor_41 (by decide) ?_
          exact ih9 k8 (by omega) y (x - x / y * y) (i + 1) (by omega) ((gcF_n (by assumption)).symm.trans hres) _ _ _ hG hS (lv_sub hl [4, 5, 2, 1, 0] rfl)
  exact loop9 100 u v 0 (by omega) rfl _ _ _ hG hS (lv_sub hl [3, 4, 2, 1, 0] rfl)

abbrev rmX_inLowestTerms : Room := { frames := 1, cells := 0, slots := 0, locals := 30 }
set_option maxRecDepth 100000 in
set_option maxHeartbeats 4000000 in
theorem kX_inLowestTerms {l : Launch} {D : va_G} {k : ClassId × ClassId × ClassId} {a : Nat → Nat} {B0 : Nat} {w : Nat → va_E} (hA : gA B0 a)  (u : Int64) (v : Int64) (q : Int32) : Met l yX_inLowestTerms (tbw yX_inLowestTerms cX_inLowestTerms 9 (some .long)) rmX_inLowestTerms (gPc D k a B0 w [.long u, .long v, .int q]) (va_Ql (roP (lowT u v q) w) (gB D k a) (gF B0)) 0 0 (gF B0) := by
  refine g_ofW (by decide) rfl (fun p e s m args below meth c Q hQ hx hb hr hlk hml hown hts hB hG hK hS ls hl => ?_)
  have hl : lv_has ls 9 [(0, .long u), (2, .long v), (4, .int q)] := hl
  have hown : s.vm.findClass RX = some m.cls := hown
  refine lv_iload hx hb dX_inLowestTerms_0 (lv_at hl 2 rfl) ?_
  refine lv_if_ne (tgt := 9) hx hb dX_inLowestTerms_2 (by decide) (fun c1 => ?_) (fun c1 => ?_)
  · refine lv_lload_n hx hb dX_inLowestTerms_9 rfl (lv_at hl 1 rfl) ?_
    refine lv_lstore (lv' := [(5, .long v), (0, .long u), (2, .long v), (4, .int q)]) hx hb dX_inLowestTerms_10 hl (by decide) rfl (fun ls hl => ?_)
    refine lv_lload_n hx hb dX_inLowestTerms_12 rfl (lv_at hl 1 rfl) ?_
    refine lv_lload_n hx hb dX_inLowestTerms_13 rfl (lv_at hl 2 rfl) ?_
    refine g_SlR (As := [.long u, .long v]) (rest := []) (kX_greatestDivisor hA u v) calX_greatestDivisor cvX_greatestDivisor mlX_237 hx hb hml hown hts hB hG hK hS ⟨by decide, by decide⟩ rfl hl.1 rfl (Nat.le_of_ble_eq_true rfl) dX_inLowestTerms_14 ⟨by decide, by decide⟩ (fun H locs hG hS => ?_)
    refine lv_lstore (lv' := [(7, .long (gcF 100 u v)), (5, .long v), (0, .long u), (2, .long v), (4, .int q)]) hx hb dX_inLowestTerms_17 hl (by decide) rfl (fun ls hl => ?_)
    refine lv_lload hx hb dX_inLowestTerms_19 (lv_at hl 0 rfl) ?_
    refine lv_lconst (v := 0) hx hb dX_inLowestTerms_21 (by decide) ?_
    refine W.lcmp hx hb dX_inLowestTerms_22 ?_
    refine lc_if_le (tgt := 34) hx hb dX_inLowestTerms_23 (by decide) (fun c2 => ?_) (fun c2 => ?_)
    · refine lv_lload hx hb dX_inLowestTerms_34 (lv_at hl 1 rfl) ?_
      exact g_lret hQ hx hb hr hlk hG hK hS (by decide) (by decide) ⟨by exact (lowT_4 (Int64.not_lt.mpr (by assumption)) (by assumption)).symm, rfl⟩ dX_inLowestTerms_36
    · refine lv_lload hx hb dX_inLowestTerms_26 (lv_at hl 1 rfl) ?_
      refine lv_lload hx hb dX_inLowestTerms_28 (lv_at hl 0 rfl) ?_
      refine lv_ldiv hx hb dX_inLowestTerms_30 (i64pos_ne (by assumption)) ?_
      refine lv_goto (tgt := 36) hx hb dX_inLowestTerms_31 (by decide) ?_
      exact g_lret hQ hx hb hr hlk hG hK hS (by decide) (by decide) ⟨by exact (lowT_2 (by assumption) (by assumption)).symm, rfl⟩ dX_inLowestTerms_36
  · refine lv_lload_n hx hb dX_inLowestTerms_5 rfl (lv_at hl 0 rfl) ?_
    refine lv_goto (tgt := 10) hx hb dX_inLowestTerms_6 (by decide) ?_
    refine lv_lstore (lv' := [(5, .long u), (0, .long u), (2, .long v), (4, .int q)]) hx hb dX_inLowestTerms_10 hl (by decide) rfl (fun ls hl => ?_)
    refine lv_lload_n hx hb dX_inLowestTerms_12 rfl (lv_at hl 1 rfl) ?_
    refine lv_lload_n hx hb dX_inLowestTerms_13 rfl (lv_at hl 2 rfl) ?_
    refine g_SlR (As := [.long u, .long v]) (rest := []) (kX_greatestDivisor hA u v) calX_greatestDivisor cvX_greatestDivisor mlX_237 hx hb hml hown hts hB hG hK hS ⟨by decide, by decide⟩ rfl hl.1 rfl (Nat.le_of_ble_eq_true rfl) dX_inLowestTerms_14 ⟨by decide, by decide⟩ (fun H locs hG hS => ?_)
    refine lv_lstore (lv' := [(7, .long (gcF 100 u v)), (5, .long u), (0, .long u), (2, .long v), (4, .int q)]) hx hb dX_inLowestTerms_17 hl (by decide) rfl (fun ls hl => ?_)
    refine lv_lload hx hb dX_inLowestTerms_19 (lv_at hl 0 rfl) ?_
    refine lv_lconst (v := 0) hx hb dX_inLowestTerms_21 (by decide) ?_
    refine W.lcmp hx hb dX_inLowestTerms_22 ?_
    refine lc_if_le (tgt := 34) hx hb dX_inLowestTerms_23 (by decide) (fun c3 => ?_) (fun c3 => ?_)
    · refine lv_lload hx hb dX_inLowestTerms_34 (lv_at hl 1 rfl) ?_
      exact g_lret hQ hx hb hr hlk hG hK hS (by decide) (by decide) ⟨by exact (lowT_3 (Int64.not_lt.mpr (by assumption)) (by assumption)).symm, rfl⟩ dX_inLowestTerms_36
    · refine lv_lload hx hb dX_inLowestTerms_26 (lv_at hl 1 rfl) ?_
      refine lv_lload hx hb dX_inLowestTerms_28 (lv_at hl 0 rfl) ?_
      refine lv_ldiv hx hb dX_inLowestTerms_30 (i64pos_ne (by assumption)) ?_
      refine lv_goto (tgt := 36) hx hb dX_inLowestTerms_31 (by decide) ?_
      exact g_lret hQ hx hb hr hlk hG hK hS (by decide) (by decide) ⟨by exact (lowT_1 (by assumption) (by assumption)).symm, rfl⟩ dX_inLowestTerms_36

abbrev rmX_whatFeeds : Room := { frames := 3, cells := 0, slots := 0, locals := 68 }
set_option maxRecDepth 100000 in
set_option maxHeartbeats 4000000 in
theorem kX_whatFeeds {l : Launch} {D : va_G} {k : ClassId × ClassId × ClassId} {a : Nat → Nat} {B0 : Nat} {w : Nat → va_E} (hA : gA B0 a) {n : Nat} {up : Nat → Int64} {lo : Nat → Int64} {fa : Nat → Int32} {we : Nat → Int32} {ti : Nat → Int32} {ri : Nat → Int32} {jo : Nat → Int32} (hsX : sX k a w ) (hsP : sP k a w n up lo fa we ti ri jo) (j : Nat) (hj : j < n) (hn : n ≤ 12) (hjo : ∀ z, z < 144 → narrow .boolean (.int (jo z)) = .int (jo z)) : Met l yX_whatFeeds (tbw yX_whatFeeds cX_whatFeeds 3 (some .int)) rmX_whatFeeds (gPc D k a B0 w [.ref (a 0), .int (nI j)]) (va_Qi (roP (rFeed up lo ri jo n j) w) (gB D k a) (gF B0)) 0 0 (gF B0) := by
  have hsX0 := hsX
  obtain ⟨hsP1, hsP2, hsP3, hsP4, hsP5, hsP6, hsP7, hsP8⟩ := hsP
  refine g_ofW (by decide) rfl (fun p e s m args below meth c Q hQ hx hb hr hlk hml hown hts hB hG hK hS ls hl => ?_)
  have hl : lv_has ls 3 [(0, .ref (a 0)), (1, .int (nI j))] := hl
  have hown : s.vm.findClass RX = some m.cls := hown
  refine lv_aload_n hx hb dX_whatFeeds_0 rfl (lv_at hl 0 rfl) ?_
  refine g_get hx hb hts inX hown hK hG 0 (by decide) hsX0 rfl 0 (by decide) lkX_10 rfl dX_whatFeeds_1 ?_
  refine lv_iload_n hx hb dX_whatFeeds_4 rfl (lv_at hl 1 rfl) ?_
  refine g_ViR (i := 1) (As := [.int (nI j)]) (rest := []) (kP_isTold hA ⟨hsP1, hsP2, hsP3, hsP4, hsP5, hsP6, hsP7, hsP8⟩ j (by omega)) calP_isTold cvP_isTold mlX_112 hx hb hml hown hts hB hG hK hS (by decide) hsP1 rfl ⟨by decide, by decide⟩ rfl hl.1 rfl (Nat.le_of_ble_eq_true rfl) dX_whatFeeds_5 ⟨by decide, by decide⟩ (fun H locs hG hS => ?_)
  refine lb_if_ne (tgt := 14) hx hb dX_whatFeeds_8 (by decide) (fun c1 => ?_) (fun c1 => ?_)
  · refine lv_aload_n hx hb dX_whatFeeds_14 rfl (lv_at hl 0 rfl) ?_
    refine g_get hx hb hts inX hown hK hG 0 (by decide) hsX0 rfl 0 (by decide) lkX_10 rfl dX_whatFeeds_15 ?_
    refine lv_iload_n hx hb dX_whatFeeds_18 rfl (lv_at hl 1 rfl) ?_
    refine g_ViR (i := 1) (As := [.int (nI j)]) (rest := []) (kP_riserOf hA ⟨hsP1, hsP2, hsP3, hsP4, hsP5, hsP6, hsP7, hsP8⟩ j (by omega)) calP_riserOf cvP_riserOf mlX_142 hx hb hml hown hts hB hG hK hS (by decide) hsP1 rfl ⟨by decide, by decide⟩ rfl hl.1 rfl (Nat.le_of_ble_eq_true rfl) dX_whatFeeds_19 ⟨by decide, by decide⟩ (fun H locs hG hS => ?_)
    refine lv_istore_n (lv' := [(2, .int (ri j)), (0, .ref (a 0)), (1, .int (nI j))]) hx hb dX_whatFeeds_22 rfl hl (by decide) rfl (fun ls hl => ?_)
    refine lv_iload_n hx hb dX_whatFeeds_23 rfl (lv_at hl 0 rfl) ?_
    refine lv_iconst (v := (-1)) hx hb dX_whatFeeds_24 (by decide) ?_
    refine lv_icmp_ne (tgt := 39) hx hb dX_whatFeeds_25 (by decide) (fun c2 => ?_) (fun c2 => ?_)
    · refine lv_bipush (v := 100) hx hb dX_whatFeeds_39 (by decide) ?_
      refine lv_iload_n hx hb dX_whatFeeds_41 rfl (lv_at hl 0 rfl) ?_
      refine lv_iadd hx hb dX_whatFeeds_42 ?_
      exact g_iret hQ hx hb hr hlk hG hK hS (by decide) (by decide) ⟨by unfold rFeed; rw [if_pos (by assumption), if_neg (by assumption)], rfl⟩ dX_whatFeeds_43
    · refine lv_aload_n hx hb dX_whatFeeds_28 rfl (lv_at hl 1 rfl) ?_
      refine g_get hx hb hts inX hown hK hG 0 (by decide) hsX0 rfl 0 (by decide) lkX_10 rfl dX_whatFeeds_29 ?_
      refine lv_iload_n hx hb dX_whatFeeds_32 rfl (lv_at hl 2 rfl) ?_
      refine g_ViR (i := 1) (As := [.int (nI j)]) (rest := []) (kP_greatestNeighbour hA ⟨hsP1, hsP2, hsP3, hsP4, hsP5, hsP6, hsP7, hsP8⟩ j (by omega) (by omega) hjo) calP_greatestNeighbour cvP_greatestNeighbour mlX_208 hx hb hml hown hts hB hG hK hS (by decide) hsP1 rfl ⟨by decide, by decide⟩ rfl hl.1 rfl (Nat.le_of_ble_eq_true rfl) dX_whatFeeds_33 ⟨by decide, by decide⟩ (fun H locs hG hS => ?_)
      refine lv_goto (tgt := 43) hx hb dX_whatFeeds_36 (by decide) ?_
      exact g_iret hQ hx hb hr hlk hG hK hS (by decide) (by decide) ⟨by unfold rFeed; rw [if_pos (by assumption), if_pos (by assumption)], rfl⟩ dX_whatFeeds_43
  · refine lv_bipush (v := (-2)) hx hb dX_whatFeeds_11 (by decide) ?_
    exact g_iret hQ hx hb hr hlk hG hK hS (by decide) (by decide) ⟨by unfold rFeed; rw [if_neg (by assumption)], rfl⟩ dX_whatFeeds_13

abbrev rmX_box : Room := { frames := 3, cells := 0, slots := 0, locals := 71 }
set_option maxRecDepth 100000 in
set_option maxHeartbeats 4000000 in
theorem kX_box {l : Launch} {D : va_G} {k : ClassId × ClassId × ClassId} {a : Nat → Nat} {B0 : Nat} {w : Nat → va_E} (hA : gA B0 a) {n : Nat} {up : Nat → Int64} {lo : Nat → Int64} {fa : Nat → Int32} {we : Nat → Int32} {ti : Nat → Int32} {ri : Nat → Int32} {jo : Nat → Int32} (hsX : sX k a w ) (hsP : sP k a w n up lo fa we ti ri jo) (x : Int32) (y : Int32) (z : Int32) (hn : n < 12) (h1 : szR x) (h2 : szR y) (h3 : szR z) : Met l yX_box (tbw yX_box cX_box 4 (some .int)) rmX_box (gPc D k a B0 w [.ref (a 0), .int x, .int y, .int z]) (va_Qi (fun rr9 w1 => ∃ (up' : Nat → Int64) (lo' : Nat → Int64) (fa' : Nat → Int32) (we' : Nat → Int32) (ti' : Nat → Int32) (ri' : Nat → Int32), rr9 = (nI n) ∧ (sP k a w1 (n + 1) up' lo' fa' we' ti' ri' jo) ∧ (up' = vp_updL up n (x.toInt64 * y.toInt64 * z.toInt64) ∧ fa' = upd fa n 6 ∧ ri' = upd ri n (-1) ∧ adB n 6 (qB x y z) lo we ti lo' we' ti') ∧ ∀ z, z < 1 ∨ 8 < z → w1 z = w z) (gB D k a) (gF B0)) 0 0 (gF B0) := by
  have hsX0 := hsX
  obtain ⟨hsP1, hsP2, hsP3, hsP4, hsP5, hsP6, hsP7, hsP8⟩ := hsP
  refine g_ofW (by decide) rfl (fun p e s m args below meth c Q hQ hx hb hr hlk hml hown hts hB hG hK hS ls hl => ?_)
  have hl : lv_has ls 4 [(0, .ref (a 0)), (1, .int x), (2, .int y), (3, .int z)] := hl
  have hown : s.vm.findClass RX = some m.cls := hown
  have hfr0 : ∀ z, z < 1 ∨ 8 < z → w z = w z := fun _ _ => rfl
  refine lv_aload_n hx hb dX_box_0 rfl (lv_at hl 0 rfl) ?_
  refine g_VvR (i := 0) (As := []) (rest := []) (kX_requireRoomForPart hA hsX0 ⟨hsP1, hsP2, hsP3, hsP4, hsP5, hsP6, hsP7, hsP8⟩ (by omega)) calX_requireRoomForPart cvX_requireRoomForPart mlX_37 hx hb hml hown hts hB hG hK hS (by decide) hsX0 rfl ⟨by decide, by decide⟩ rfl hl.1 rfl (Nat.le_of_ble_eq_true rfl) dX_box_1 ⟨by decide, by decide⟩ (fun H locs hG hS => ?_)
  refine lv_iload_n hx hb dX_box_4 rfl (lv_at hl 1 rfl) ?_
  refine g_SvR (As := [.int x]) (rest := []) (kX_requireSize hA x (by assumption)) calX_requireSize cvX_requireSize mlX_40 hx hb hml hown hts hB hG hK hS ⟨by decide, by decide⟩ rfl hl.1 rfl (Nat.le_of_ble_eq_true rfl) dX_box_5 ⟨by decide, by decide⟩ (fun H locs hG hS => ?_)
  refine lv_iload_n hx hb dX_box_8 rfl (lv_at hl 2 rfl) ?_
  refine g_SvR (As := [.int y]) (rest := []) (kX_requireSize hA y (by assumption)) calX_requireSize cvX_requireSize mlX_40 hx hb hml hown hts hB hG hK hS ⟨by decide, by decide⟩ rfl hl.1 rfl (Nat.le_of_ble_eq_true rfl) dX_box_9 ⟨by decide, by decide⟩ (fun H locs hG hS => ?_)
  refine lv_iload_n hx hb dX_box_12 rfl (lv_at hl 3 rfl) ?_
  refine g_SvR (As := [.int z]) (rest := []) (kX_requireSize hA z (by assumption)) calX_requireSize cvX_requireSize mlX_40 hx hb hml hown hts hB hG hK hS ⟨by decide, by decide⟩ rfl hl.1 rfl (Nat.le_of_ble_eq_true rfl) dX_box_13 ⟨by decide, by decide⟩ (fun H locs hG hS => ?_)
  refine lv_aload_n hx hb dX_box_16 rfl (lv_at hl 0 rfl) ?_
  refine g_get hx hb hts inX hown hK hG 0 (by decide) hsX0 rfl 0 (by decide) lkX_10 rfl dX_box_17 ?_
  refine lv_iload_n hx hb dX_box_20 rfl (lv_at hl 1 rfl) ?_
  refine lv_iload_n hx hb dX_box_21 rfl (lv_at hl 2 rfl) ?_
  refine lv_iload_n hx hb dX_box_22 rfl (lv_at hl 3 rfl) ?_
  refine g_Vi (i := 1) (As := [.int x, .int y, .int z]) (rest := []) (kP_addBox hA ⟨hsP1, hsP2, hsP3, hsP4, hsP5, hsP6, hsP7, hsP8⟩ x y z (by omega)) calP_addBox cvP_addBox mlX_44 hx hb hml hown hts hB hG hK hS (by decide) hsP1 rfl ⟨by decide, by decide⟩ rfl hl.1 rfl (Nat.le_of_ble_eq_true rfl) dX_box_23 ⟨by decide, by decide⟩ (fun r1 w2 H locs hp3 hG hS => ?_)
  obtain ⟨up_14, lo_15, fa_16, we_17, ti_18, ri_19, er12, ⟨h4, h5, h6, h7, h8, h9, h10, h11⟩, hx20, hfr13⟩ := hp3
  have h21 : w2 0 = .inr (0, [.ref (a 1), .ref (a 9), .ref (a 12), .ref (a 15)]) := (hfr13 0 (by omega)).trans hsX0
  have hfr22 : ∀ z, z < 1 ∨ 8 < z → w2 z = w z := fun z hz => (hfr13 z (by omega)).trans (hfr0 z hz)
  rw [er12]
  exact g_iret hQ hx hb hr hlk hG hK hS (by decide) (by decide) ⟨up_14, lo_15, fa_16, we_17, ti_18, ri_19, by first | rfl | omega | (simp_all; done) | grind, ⟨h4, h5, h6, h7, h8, h9, h10, h11⟩, hx20, hfr22⟩ dX_box_26

abbrev rmX_box_f : Room := { frames := 7, cells := 1, slots := 6, locals := 102 }
set_option maxRecDepth 100000 in
set_option maxHeartbeats 4000000 in
theorem kX_box_f {l : Launch} (hl9 : l.stackTraces = false) {D : va_G} {k : ClassId × ClassId × ClassId} {a : Nat → Nat} {B0 : Nat} {w : Nat → va_E} (hA : gA B0 a) {n : Nat} {up : Nat → Int64} {lo : Nat → Int64} {fa : Nat → Int32} {we : Nat → Int32} {ti : Nat → Int32} {ri : Nat → Int32} {jo : Nat → Int32} (hsX : sX k a w ) (hsP : sP k a w n up lo fa we ti ri jo) (x : Int32) (y : Int32) (z : Int32) (hn : n = 12) : xMet l yX_box cX_box 4 (some .int) rmX_box_f D k a B0 w [.ref (a 0), .int x, .int y, .int z] eISE := by
  have hsX0 := hsX
  obtain ⟨hsP1, hsP2, hsP3, hsP4, hsP5, hsP6, hsP7, hsP8⟩ := hsP
  refine x_ofW (by decide) rfl (fun p e s m args below meth c Q hQ htab hx hb hr hlk hml hown hts hB hG hK hS hXS ls hl => ?_)
  have hl : lv_has ls 4 [(0, .ref (a 0)), (1, .int x), (2, .int y), (3, .int z)] := hl
  have hown : s.vm.findClass RX = some m.cls := hown
  refine lv_aload_n hx hb dX_box_0 rfl (lv_at hl 0 rfl) ?_
  exact x_VB (i := 0) (As := []) (rest := []) hQ htab hlk (kX_requireRoomForPart_b hl9 hA hsX0 ⟨hsP1, hsP2, hsP3, hsP4, hsP5, hsP6, hsP7, hsP8⟩ (by omega)) calX_requireRoomForPart cvX_requireRoomForPart mlX_37 hx hb hml hown hts hB hG hK hS hXS (by decide) hsX0 rfl ⟨by decide, by decide⟩ rfl hl.1 rfl (Nat.le_of_ble_eq_true rfl) dX_box_1 ⟨by decide, by decide⟩ (by decide) (by decide)

abbrev rmX_box_z : Room := { frames := 7, cells := 1, slots := 6, locals := 102 }
set_option maxRecDepth 100000 in
set_option maxHeartbeats 4000000 in
theorem kX_box_z {l : Launch} (hl9 : l.stackTraces = false) {D : va_G} {k : ClassId × ClassId × ClassId} {a : Nat → Nat} {B0 : Nat} {w : Nat → va_E} (hA : gA B0 a) {n : Nat} {up : Nat → Int64} {lo : Nat → Int64} {fa : Nat → Int32} {we : Nat → Int32} {ti : Nat → Int32} {ri : Nat → Int32} {jo : Nat → Int32} (hsX : sX k a w ) (hsP : sP k a w n up lo fa we ti ri jo) (x : Int32) (y : Int32) (z : Int32) (hn : n < 12) (hz : ¬ (szR x ∧ szR y ∧ szR z)) : xMet l yX_box cX_box 4 (some .int) rmX_box_z D k a B0 w [.ref (a 0), .int x, .int y, .int z] eIAE := by
  have hsX0 := hsX
  obtain ⟨hsP1, hsP2, hsP3, hsP4, hsP5, hsP6, hsP7, hsP8⟩ := hsP
  refine x_ofW (by decide) rfl (fun p e s m args below meth c Q hQ htab hx hb hr hlk hml hown hts hB hG hK hS hXS ls hl => ?_)
  have hl : lv_has ls 4 [(0, .ref (a 0)), (1, .int x), (2, .int y), (3, .int z)] := hl
  have hown : s.vm.findClass RX = some m.cls := hown
  refine lv_aload_n hx hb dX_box_0 rfl (lv_at hl 0 rfl) ?_
  refine g_VvR (i := 0) (As := []) (rest := []) (kX_requireRoomForPart hA hsX0 ⟨hsP1, hsP2, hsP3, hsP4, hsP5, hsP6, hsP7, hsP8⟩ (by omega)) calX_requireRoomForPart cvX_requireRoomForPart mlX_37 hx hb hml hown hts hB hG hK hS (by decide) hsX0 rfl ⟨by decide, by decide⟩ rfl hl.1 rfl (Nat.le_of_ble_eq_true rfl) dX_box_1 ⟨by decide, by decide⟩ (fun H locs hG hS => ?_)
  refine lv_iload_n hx hb dX_box_4 rfl (lv_at hl 1 rfl) ?_
  by_cases hs1 : szR x
  · refine g_SvR (As := [.int x]) (rest := []) (kX_requireSize hA x (by assumption)) calX_requireSize cvX_requireSize mlX_40 hx hb hml hown hts hB hG hK hS ⟨by decide, by decide⟩ rfl hl.1 rfl (Nat.le_of_ble_eq_true rfl) dX_box_5 ⟨by decide, by decide⟩ (fun H locs hG hS => ?_)
    refine lv_iload_n hx hb dX_box_8 rfl (lv_at hl 2 rfl) ?_
    by_cases hs2 : szR y
    · refine g_SvR (As := [.int y]) (rest := []) (kX_requireSize hA y (by assumption)) calX_requireSize cvX_requireSize mlX_40 hx hb hml hown hts hB hG hK hS ⟨by decide, by decide⟩ rfl hl.1 rfl (Nat.le_of_ble_eq_true rfl) dX_box_9 ⟨by decide, by decide⟩ (fun H locs hG hS => ?_)
      refine lv_iload_n hx hb dX_box_12 rfl (lv_at hl 3 rfl) ?_
      by_cases hs3 : szR z
      · refine g_SvR (As := [.int z]) (rest := []) (kX_requireSize hA z (by assumption)) calX_requireSize cvX_requireSize mlX_40 hx hb hml hown hts hB hG hK hS ⟨by decide, by decide⟩ rfl hl.1 rfl (Nat.le_of_ble_eq_true rfl) dX_box_13 ⟨by decide, by decide⟩ (fun H locs hG hS => ?_)
        exact absurd ⟨by assumption, by assumption, by assumption⟩ hz
      · exact x_SB (As := [.int z]) (rest := []) hQ htab hlk (kX_requireSize_b hl9 hA z (by assumption)) calX_requireSize cvX_requireSize mlX_40 hx hb hml hown hts hB hG hK hS hXS ⟨by decide, by decide⟩ rfl hl.1 rfl (Nat.le_of_ble_eq_true rfl) dX_box_13 ⟨by decide, by decide⟩ (by decide) (by decide)
    · exact x_SB (As := [.int y]) (rest := []) hQ htab hlk (kX_requireSize_b hl9 hA y (by assumption)) calX_requireSize cvX_requireSize mlX_40 hx hb hml hown hts hB hG hK hS hXS ⟨by decide, by decide⟩ rfl hl.1 rfl (Nat.le_of_ble_eq_true rfl) dX_box_9 ⟨by decide, by decide⟩ (by decide) (by decide)
  · exact x_SB (As := [.int x]) (rest := []) hQ htab hlk (kX_requireSize_b hl9 hA x (by assumption)) calX_requireSize cvX_requireSize mlX_40 hx hb hml hown hts hB hG hK hS hXS ⟨by decide, by decide⟩ rfl hl.1 rfl (Nat.le_of_ble_eq_true rfl) dX_box_5 ⟨by decide, by decide⟩ (by decide) (by decide)

abbrev rmX_cylinder : Room := { frames := 3, cells := 0, slots := 0, locals := 70 }
set_option maxRecDepth 100000 in
set_option maxHeartbeats 4000000 in
theorem kX_cylinder {l : Launch} {D : va_G} {k : ClassId × ClassId × ClassId} {a : Nat → Nat} {B0 : Nat} {w : Nat → va_E} (hA : gA B0 a) {n : Nat} {up : Nat → Int64} {lo : Nat → Int64} {fa : Nat → Int32} {we : Nat → Int32} {ti : Nat → Int32} {ri : Nat → Int32} {jo : Nat → Int32} (hsX : sX k a w ) (hsP : sP k a w n up lo fa we ti ri jo) (x : Int32) (y : Int32) (hn : n < 12) (h1 : szR x) (h2 : szR y) : Met l yX_cylinder (tbw yX_cylinder cX_cylinder 3 (some .int)) rmX_cylinder (gPc D k a B0 w [.ref (a 0), .int x, .int y]) (va_Qi (fun rr9 w1 => ∃ (up' : Nat → Int64) (lo' : Nat → Int64) (fa' : Nat → Int32) (we' : Nat → Int32) (ti' : Nat → Int32) (ri' : Nat → Int32), rr9 = (nI n) ∧ (sP k a w1 (n + 1) up' lo' fa' we' ti' ri' jo) ∧ (up' = vp_updL up n (x.toInt64 * y.toInt64) ∧ fa' = upd fa n 3 ∧ ri' = upd ri n (-1) ∧ adB n 3 (qC x y) lo we ti lo' we' ti') ∧ ∀ z, z < 1 ∨ 8 < z → w1 z = w z) (gB D k a) (gF B0)) 0 0 (gF B0) := by
  have hsX0 := hsX
  obtain ⟨hsP1, hsP2, hsP3, hsP4, hsP5, hsP6, hsP7, hsP8⟩ := hsP
  refine g_ofW (by decide) rfl (fun p e s m args below meth c Q hQ hx hb hr hlk hml hown hts hB hG hK hS ls hl => ?_)
  have hl : lv_has ls 3 [(0, .ref (a 0)), (1, .int x), (2, .int y)] := hl
  have hown : s.vm.findClass RX = some m.cls := hown
  have hfr0 : ∀ z, z < 1 ∨ 8 < z → w z = w z := fun _ _ => rfl
  refine lv_aload_n hx hb dX_cylinder_0 rfl (lv_at hl 0 rfl) ?_
  refine g_VvR (i := 0) (As := []) (rest := []) (kX_requireRoomForPart hA hsX0 ⟨hsP1, hsP2, hsP3, hsP4, hsP5, hsP6, hsP7, hsP8⟩ (by omega)) calX_requireRoomForPart cvX_requireRoomForPart mlX_37 hx hb hml hown hts hB hG hK hS (by decide) hsX0 rfl ⟨by decide, by decide⟩ rfl hl.1 rfl (Nat.le_of_ble_eq_true rfl) dX_cylinder_1 ⟨by decide, by decide⟩ (fun H locs hG hS => ?_)
  refine lv_iload_n hx hb dX_cylinder_4 rfl (lv_at hl 1 rfl) ?_
  refine g_SvR (As := [.int x]) (rest := []) (kX_requireSize hA x (by assumption)) calX_requireSize cvX_requireSize mlX_40 hx hb hml hown hts hB hG hK hS ⟨by decide, by decide⟩ rfl hl.1 rfl (Nat.le_of_ble_eq_true rfl) dX_cylinder_5 ⟨by decide, by decide⟩ (fun H locs hG hS => ?_)
  refine lv_iload_n hx hb dX_cylinder_8 rfl (lv_at hl 2 rfl) ?_
  refine g_SvR (As := [.int y]) (rest := []) (kX_requireSize hA y (by assumption)) calX_requireSize cvX_requireSize mlX_40 hx hb hml hown hts hB hG hK hS ⟨by decide, by decide⟩ rfl hl.1 rfl (Nat.le_of_ble_eq_true rfl) dX_cylinder_9 ⟨by decide, by decide⟩ (fun H locs hG hS => ?_)
  refine lv_aload_n hx hb dX_cylinder_12 rfl (lv_at hl 0 rfl) ?_
  refine g_get hx hb hts inX hown hK hG 0 (by decide) hsX0 rfl 0 (by decide) lkX_10 rfl dX_cylinder_13 ?_
  refine lv_iload_n hx hb dX_cylinder_16 rfl (lv_at hl 1 rfl) ?_
  refine lv_iload_n hx hb dX_cylinder_17 rfl (lv_at hl 2 rfl) ?_
  refine g_Vi (i := 1) (As := [.int x, .int y]) (rest := []) (kP_addCylinder hA ⟨hsP1, hsP2, hsP3, hsP4, hsP5, hsP6, hsP7, hsP8⟩ x y (by omega)) calP_addCylinder cvP_addCylinder mlX_48 hx hb hml hown hts hB hG hK hS (by decide) hsP1 rfl ⟨by decide, by decide⟩ rfl hl.1 rfl (Nat.le_of_ble_eq_true rfl) dX_cylinder_18 ⟨by decide, by decide⟩ (fun r1 w2 H locs hp3 hG hS => ?_)
  obtain ⟨up_14, lo_15, fa_16, we_17, ti_18, ri_19, er12, ⟨h4, h5, h6, h7, h8, h9, h10, h11⟩, hx20, hfr13⟩ := hp3
  have h21 : w2 0 = .inr (0, [.ref (a 1), .ref (a 9), .ref (a 12), .ref (a 15)]) := (hfr13 0 (by omega)).trans hsX0
  have hfr22 : ∀ z, z < 1 ∨ 8 < z → w2 z = w z := fun z hz => (hfr13 z (by omega)).trans (hfr0 z hz)
  rw [er12]
  exact g_iret hQ hx hb hr hlk hG hK hS (by decide) (by decide) ⟨up_14, lo_15, fa_16, we_17, ti_18, ri_19, by first | rfl | omega | (simp_all; done) | grind, ⟨h4, h5, h6, h7, h8, h9, h10, h11⟩, hx20, hfr22⟩ dX_cylinder_21

abbrev rmX_cylinder_f : Room := { frames := 7, cells := 1, slots := 6, locals := 102 }
set_option maxRecDepth 100000 in
set_option maxHeartbeats 4000000 in
theorem kX_cylinder_f {l : Launch} (hl9 : l.stackTraces = false) {D : va_G} {k : ClassId × ClassId × ClassId} {a : Nat → Nat} {B0 : Nat} {w : Nat → va_E} (hA : gA B0 a) {n : Nat} {up : Nat → Int64} {lo : Nat → Int64} {fa : Nat → Int32} {we : Nat → Int32} {ti : Nat → Int32} {ri : Nat → Int32} {jo : Nat → Int32} (hsX : sX k a w ) (hsP : sP k a w n up lo fa we ti ri jo) (x : Int32) (y : Int32) (hn : n = 12) : xMet l yX_cylinder cX_cylinder 3 (some .int) rmX_cylinder_f D k a B0 w [.ref (a 0), .int x, .int y] eISE := by
  have hsX0 := hsX
  obtain ⟨hsP1, hsP2, hsP3, hsP4, hsP5, hsP6, hsP7, hsP8⟩ := hsP
  refine x_ofW (by decide) rfl (fun p e s m args below meth c Q hQ htab hx hb hr hlk hml hown hts hB hG hK hS hXS ls hl => ?_)
  have hl : lv_has ls 3 [(0, .ref (a 0)), (1, .int x), (2, .int y)] := hl
  have hown : s.vm.findClass RX = some m.cls := hown
  refine lv_aload_n hx hb dX_cylinder_0 rfl (lv_at hl 0 rfl) ?_
  exact x_VB (i := 0) (As := []) (rest := []) hQ htab hlk (kX_requireRoomForPart_b hl9 hA hsX0 ⟨hsP1, hsP2, hsP3, hsP4, hsP5, hsP6, hsP7, hsP8⟩ (by omega)) calX_requireRoomForPart cvX_requireRoomForPart mlX_37 hx hb hml hown hts hB hG hK hS hXS (by decide) hsX0 rfl ⟨by decide, by decide⟩ rfl hl.1 rfl (Nat.le_of_ble_eq_true rfl) dX_cylinder_1 ⟨by decide, by decide⟩ (by decide) (by decide)

abbrev rmX_cylinder_z : Room := { frames := 7, cells := 1, slots := 6, locals := 102 }
set_option maxRecDepth 100000 in
set_option maxHeartbeats 4000000 in
theorem kX_cylinder_z {l : Launch} (hl9 : l.stackTraces = false) {D : va_G} {k : ClassId × ClassId × ClassId} {a : Nat → Nat} {B0 : Nat} {w : Nat → va_E} (hA : gA B0 a) {n : Nat} {up : Nat → Int64} {lo : Nat → Int64} {fa : Nat → Int32} {we : Nat → Int32} {ti : Nat → Int32} {ri : Nat → Int32} {jo : Nat → Int32} (hsX : sX k a w ) (hsP : sP k a w n up lo fa we ti ri jo) (x : Int32) (y : Int32) (hn : n < 12) (hz : ¬ (szR x ∧ szR y)) : xMet l yX_cylinder cX_cylinder 3 (some .int) rmX_cylinder_z D k a B0 w [.ref (a 0), .int x, .int y] eIAE := by
  have hsX0 := hsX
  obtain ⟨hsP1, hsP2, hsP3, hsP4, hsP5, hsP6, hsP7, hsP8⟩ := hsP
  refine x_ofW (by decide) rfl (fun p e s m args below meth c Q hQ htab hx hb hr hlk hml hown hts hB hG hK hS hXS ls hl => ?_)
  have hl : lv_has ls 3 [(0, .ref (a 0)), (1, .int x), (2, .int y)] := hl
  have hown : s.vm.findClass RX = some m.cls := hown
  refine lv_aload_n hx hb dX_cylinder_0 rfl (lv_at hl 0 rfl) ?_
  refine g_VvR (i := 0) (As := []) (rest := []) (kX_requireRoomForPart hA hsX0 ⟨hsP1, hsP2, hsP3, hsP4, hsP5, hsP6, hsP7, hsP8⟩ (by omega)) calX_requireRoomForPart cvX_requireRoomForPart mlX_37 hx hb hml hown hts hB hG hK hS (by decide) hsX0 rfl ⟨by decide, by decide⟩ rfl hl.1 rfl (Nat.le_of_ble_eq_true rfl) dX_cylinder_1 ⟨by decide, by decide⟩ (fun H locs hG hS => ?_)
  refine lv_iload_n hx hb dX_cylinder_4 rfl (lv_at hl 1 rfl) ?_
  by_cases hs1 : szR x
  · refine g_SvR (As := [.int x]) (rest := []) (kX_requireSize hA x (by assumption)) calX_requireSize cvX_requireSize mlX_40 hx hb hml hown hts hB hG hK hS ⟨by decide, by decide⟩ rfl hl.1 rfl (Nat.le_of_ble_eq_true rfl) dX_cylinder_5 ⟨by decide, by decide⟩ (fun H locs hG hS => ?_)
    refine lv_iload_n hx hb dX_cylinder_8 rfl (lv_at hl 2 rfl) ?_
    by_cases hs2 : szR y
    · refine g_SvR (As := [.int y]) (rest := []) (kX_requireSize hA y (by assumption)) calX_requireSize cvX_requireSize mlX_40 hx hb hml hown hts hB hG hK hS ⟨by decide, by decide⟩ rfl hl.1 rfl (Nat.le_of_ble_eq_true rfl) dX_cylinder_9 ⟨by decide, by decide⟩ (fun H locs hG hS => ?_)
      exact absurd ⟨by assumption, by assumption⟩ hz
    · exact x_SB (As := [.int y]) (rest := []) hQ htab hlk (kX_requireSize_b hl9 hA y (by assumption)) calX_requireSize cvX_requireSize mlX_40 hx hb hml hown hts hB hG hK hS hXS ⟨by decide, by decide⟩ rfl hl.1 rfl (Nat.le_of_ble_eq_true rfl) dX_cylinder_9 ⟨by decide, by decide⟩ (by decide) (by decide)
  · exact x_SB (As := [.int x]) (rest := []) hQ htab hlk (kX_requireSize_b hl9 hA x (by assumption)) calX_requireSize cvX_requireSize mlX_40 hx hb hml hown hts hB hG hK hS hXS ⟨by decide, by decide⟩ rfl hl.1 rfl (Nat.le_of_ble_eq_true rfl) dX_cylinder_5 ⟨by decide, by decide⟩ (by decide) (by decide)

abbrev rmX_face : Room := { frames := 2, cells := 0, slots := 0, locals := 42 }
set_option maxRecDepth 100000 in
set_option maxHeartbeats 4000000 in
theorem kX_face {l : Launch} {D : va_G} {k : ClassId × ClassId × ClassId} {a : Nat → Nat} {B0 : Nat} {w : Nat → va_E} (hA : gA B0 a) {n : Nat} {up : Nat → Int64} {lo : Nat → Int64} {fa : Nat → Int32} {we : Nat → Int32} {ti : Nat → Int32} {ri : Nat → Int32} {jo : Nat → Int32} (hsX : sX k a w ) (hsP : sP k a w n up lo fa we ti ri jo) (j : Nat) (g : Nat) (h : Int32) (hj : j < n) (hn : n ≤ 12) (hg : g < 6) (hfa : ¬ fa j ≤ nI g) (hh : rngI h 0 2) : Met l yX_face (tbw yX_face cX_face 4 none) rmX_face (gPc D k a B0 w [.ref (a 0), .int (nI j), .int (nI g), .int h]) (va_Qv (fun w1 => (sP k a w1 n up (vp_updL lo j (lo j + (we (j * 6 + g)).toInt64 * (h - ti (j * 6 + g)).toInt64)) fa we (upd ti (j * 6 + g) h) ri jo) ∧ ∀ z, z < 1 ∨ 8 < z → w1 z = w z) (gB D k a) (gF B0)) 0 0 (gF B0) := by
  have hsX0 := hsX
  obtain ⟨hsP1, hsP2, hsP3, hsP4, hsP5, hsP6, hsP7, hsP8⟩ := hsP
  refine g_ofW (by decide) rfl (fun p e s m args below meth c Q hQ hx hb hr hlk hml hown hts hB hG hK hS ls hl => ?_)
  have hl : lv_has ls 4 [(0, .ref (a 0)), (1, .int (nI j)), (2, .int (nI g)), (3, .int h)] := hl
  have hown : s.vm.findClass RX = some m.cls := hown
  have hfr0 : ∀ z, z < 1 ∨ 8 < z → w z = w z := fun _ _ => rfl
  refine lv_aload_n hx hb dX_face_0 rfl (lv_at hl 0 rfl) ?_
  refine lv_iload_n hx hb dX_face_1 rfl (lv_at hl 1 rfl) ?_
  refine g_VvR (i := 0) (As := [.int (nI j)]) (rest := []) (kX_requirePart hA hsX0 ⟨hsP1, hsP2, hsP3, hsP4, hsP5, hsP6, hsP7, hsP8⟩ j (by omega) (by omega)) calX_requirePart cvX_requirePart mlX_52 hx hb hml hown hts hB hG hK hS (by decide) hsX0 rfl ⟨by decide, by decide⟩ rfl hl.1 rfl (Nat.le_of_ble_eq_true rfl) dX_face_2 ⟨by decide, by decide⟩ (fun H locs hG hS => ?_)
  refine lv_aload_n hx hb dX_face_5 rfl (lv_at hl 0 rfl) ?_
  refine g_get hx hb hts inX hown hK hG 0 (by decide) hsX0 rfl 0 (by decide) lkX_10 rfl dX_face_6 ?_
  refine lv_iload_n hx hb dX_face_9 rfl (lv_at hl 1 rfl) ?_
  refine lv_iload_n hx hb dX_face_10 rfl (lv_at hl 2 rfl) ?_
  refine g_ViR (i := 1) (As := [.int (nI j), .int (nI g)]) (rest := []) (kP_hasFace hA ⟨hsP1, hsP2, hsP3, hsP4, hsP5, hsP6, hsP7, hsP8⟩ j (nI g) (by omega)) calP_hasFace cvP_hasFace mlX_55 hx hb hml hown hts hB hG hK hS (by decide) hsP1 rfl ⟨by decide, by decide⟩ rfl hl.1 rfl (Nat.le_of_ble_eq_true rfl) dX_face_11 ⟨by decide, by decide⟩ (fun H locs hG hS => ?_)
  refine lb_if_ne (tgt := 27) hx hb dX_face_14 (by decide) (fun c1 => ?_) (fun c1 => ?_)
  · refine lv_iload_n hx hb dX_face_27 rfl (lv_at hl 3 rfl) ?_
    refine lv_if_lt (tgt := 36) hx hb dX_face_28 (by decide) (fun c2 => ?_) (fun c2 => ?_)
    · exfalso
      first | exact absurd (by assumption) hh.1 | exact absurd (Int32.not_le.mp (by assumption)) hh.2
    · refine lv_iload_n hx hb dX_face_31 rfl (lv_at hl 3 rfl) ?_
      refine lv_iconst (v := 2) hx hb dX_face_32 (by decide) ?_
      refine lv_icmp_le (tgt := 46) hx hb dX_face_33 (by decide) (fun c3 => ?_) (fun c3 => ?_)
      · refine lv_aload_n hx hb dX_face_46 rfl (lv_at hl 0 rfl) ?_
        refine g_get hx hb hts inX hown hK hG 0 (by decide) hsX0 rfl 0 (by decide) lkX_10 rfl dX_face_47 ?_
        refine lv_iload_n hx hb dX_face_50 rfl (lv_at hl 1 rfl) ?_
        refine lv_iload_n hx hb dX_face_51 rfl (lv_at hl 2 rfl) ?_
        refine lv_iload_n hx hb dX_face_52 rfl (lv_at hl 3 rfl) ?_
        refine g_Vv (i := 1) (As := [.int (nI j), .int (nI g), .int h]) (rest := []) (kP_setTimes hA ⟨hsP1, hsP2, hsP3, hsP4, hsP5, hsP6, hsP7, hsP8⟩ j g h (by omega) (by omega)) calP_setTimes cvP_setTimes mlX_71 hx hb hml hown hts hB hG hK hS (by decide) hsP1 rfl ⟨by decide, by decide⟩ rfl hl.1 rfl (Nat.le_of_ble_eq_true rfl) dX_face_53 ⟨by decide, by decide⟩ (fun w5 H locs hp6 hG hS => ?_)
        obtain ⟨⟨h7, h8, h9, h10, h11, h12, h13, h14⟩, hfr16⟩ := hp6
        have h17 : w5 0 = .inr (0, [.ref (a 1), .ref (a 9), .ref (a 12), .ref (a 15)]) := (hfr16 0 (by omega)).trans hsX0
        have hfr18 : ∀ z, z < 1 ∨ 8 < z → w5 z = w z := fun z hz => (hfr16 z (by omega)).trans (hfr0 z hz)
        exact g_vret hQ hx hb hr hlk hG hK hS (by decide) (by decide) ⟨⟨h7, h8, h9, h10, h11, h12, h13, h14⟩, hfr18⟩ dX_face_56
      · exfalso
        first | exact absurd (by assumption) hh.1 | exact absurd (Int32.not_le.mp (by assumption)) hh.2
  · exfalso
    exact (by assumption : ¬ (¬ nI g < 0 ∧ ¬ fa j ≤ nI g)) ⟨nI_pos (by omega), hfa⟩

abbrev rmX_face_p : Room := { frames := 7, cells := 1, slots := 6, locals := 103 }
set_option maxRecDepth 100000 in
set_option maxHeartbeats 4000000 in
theorem kX_face_p {l : Launch} (hl9 : l.stackTraces = false) {D : va_G} {k : ClassId × ClassId × ClassId} {a : Nat → Nat} {B0 : Nat} {w : Nat → va_E} (hA : gA B0 a) {n : Nat} {up : Nat → Int64} {lo : Nat → Int64} {fa : Nat → Int32} {we : Nat → Int32} {ti : Nat → Int32} {ri : Nat → Int32} {jo : Nat → Int32} (hsX : sX k a w ) (hsP : sP k a w n up lo fa we ti ri jo) (q : Int32) (f : Int32) (h : Int32) (hq : ¬ (¬ q < 0 ∧ ¬ nI n ≤ q)) : xMet l yX_face cX_face 4 none rmX_face_p D k a B0 w [.ref (a 0), .int q, .int f, .int h] eIOB := by
  have hsX0 := hsX
  obtain ⟨hsP1, hsP2, hsP3, hsP4, hsP5, hsP6, hsP7, hsP8⟩ := hsP
  refine x_ofW (by decide) rfl (fun p e s m args below meth c Q hQ htab hx hb hr hlk hml hown hts hB hG hK hS hXS ls hl => ?_)
  have hl : lv_has ls 4 [(0, .ref (a 0)), (1, .int q), (2, .int f), (3, .int h)] := hl
  have hown : s.vm.findClass RX = some m.cls := hown
  refine lv_aload_n hx hb dX_face_0 rfl (lv_at hl 0 rfl) ?_
  refine lv_iload_n hx hb dX_face_1 rfl (lv_at hl 1 rfl) ?_
  exact x_VB (i := 0) (As := [.int q]) (rest := []) hQ htab hlk (kX_requirePart_b hl9 hA hsX0 ⟨hsP1, hsP2, hsP3, hsP4, hsP5, hsP6, hsP7, hsP8⟩ q (by assumption)) calX_requirePart cvX_requirePart mlX_52 hx hb hml hown hts hB hG hK hS hXS (by decide) hsX0 rfl ⟨by decide, by decide⟩ rfl hl.1 rfl (Nat.le_of_ble_eq_true rfl) dX_face_2 ⟨by decide, by decide⟩ (by decide) (by decide)

abbrev rmX_face_f : Room := { frames := 7, cells := 1, slots := 6, locals := 103 }
set_option maxRecDepth 100000 in
set_option maxHeartbeats 4000000 in
theorem kX_face_f {l : Launch} (hl9 : l.stackTraces = false) {D : va_G} {k : ClassId × ClassId × ClassId} {a : Nat → Nat} {B0 : Nat} {w : Nat → va_E} (hA : gA B0 a) {n : Nat} {up : Nat → Int64} {lo : Nat → Int64} {fa : Nat → Int32} {we : Nat → Int32} {ti : Nat → Int32} {ri : Nat → Int32} {jo : Nat → Int32} (hsX : sX k a w ) (hsP : sP k a w n up lo fa we ti ri jo) (j : Nat) (f : Int32) (h : Int32) (hj : j < n) (hn : n ≤ 12) (hf : ¬ (¬ f < 0 ∧ ¬ fa j ≤ f)) : xMet l yX_face cX_face 4 none rmX_face_f D k a B0 w [.ref (a 0), .int (nI j), .int f, .int h] eIOB := by
  have hsX0 := hsX
  obtain ⟨hsP1, hsP2, hsP3, hsP4, hsP5, hsP6, hsP7, hsP8⟩ := hsP
  refine x_ofW (by decide) rfl (fun p e s m args below meth c Q hQ htab hx hb hr hlk hml hown hts hB hG hK hS hXS ls hl => ?_)
  have hl : lv_has ls 4 [(0, .ref (a 0)), (1, .int (nI j)), (2, .int f), (3, .int h)] := hl
  have hown : s.vm.findClass RX = some m.cls := hown
  refine lv_aload_n hx hb dX_face_0 rfl (lv_at hl 0 rfl) ?_
  refine lv_iload_n hx hb dX_face_1 rfl (lv_at hl 1 rfl) ?_
  refine g_VvR (i := 0) (As := [.int (nI j)]) (rest := []) (kX_requirePart hA hsX0 ⟨hsP1, hsP2, hsP3, hsP4, hsP5, hsP6, hsP7, hsP8⟩ j (by omega) (by omega)) calX_requirePart cvX_requirePart mlX_52 hx hb hml hown hts hB hG hK hS (by decide) hsX0 rfl ⟨by decide, by decide⟩ rfl hl.1 rfl (Nat.le_of_ble_eq_true rfl) dX_face_2 ⟨by decide, by decide⟩ (fun H locs hG hS => ?_)
  refine lv_aload_n hx hb dX_face_5 rfl (lv_at hl 0 rfl) ?_
  refine g_get hx hb hts inX hown hK hG 0 (by decide) hsX0 rfl 0 (by decide) lkX_10 rfl dX_face_6 ?_
  refine lv_iload_n hx hb dX_face_9 rfl (lv_at hl 1 rfl) ?_
  refine lv_iload_n hx hb dX_face_10 rfl (lv_at hl 2 rfl) ?_
  refine g_ViR (i := 1) (As := [.int (nI j), .int f]) (rest := []) (kP_hasFace hA ⟨hsP1, hsP2, hsP3, hsP4, hsP5, hsP6, hsP7, hsP8⟩ j f (by omega)) calP_hasFace cvP_hasFace mlX_55 hx hb hml hown hts hB hG hK hS (by decide) hsP1 rfl ⟨by decide, by decide⟩ rfl hl.1 rfl (Nat.le_of_ble_eq_true rfl) dX_face_11 ⟨by decide, by decide⟩ (fun H locs hG hS => ?_)
  refine lb_if_ne (tgt := 27) hx hb dX_face_14 (by decide) (fun c1 => ?_) (fun c1 => ?_)
  · exact absurd c1 hf
  · exact x_throw hQ hl9 xok_eIOB (show ((61 : Nat), "no such face") ∈ xStr by decide +kernel) hx hb hml hown hts hG hK hS hXS hlk htab hl.1 dX_face_17 dX_face_20 dX_face_21 dX_face_23 dX_face_26 (by decide) (by decide) (by decide) (by decide) (by decide) (by decide)

abbrev rmX_face_h : Room := { frames := 7, cells := 1, slots := 6, locals := 103 }
set_option maxRecDepth 100000 in
set_option maxHeartbeats 4000000 in
theorem kX_face_h {l : Launch} (hl9 : l.stackTraces = false) {D : va_G} {k : ClassId × ClassId × ClassId} {a : Nat → Nat} {B0 : Nat} {w : Nat → va_E} (hA : gA B0 a) {n : Nat} {up : Nat → Int64} {lo : Nat → Int64} {fa : Nat → Int32} {we : Nat → Int32} {ti : Nat → Int32} {ri : Nat → Int32} {jo : Nat → Int32} (hsX : sX k a w ) (hsP : sP k a w n up lo fa we ti ri jo) (j : Nat) (f : Int32) (h : Int32) (hj : j < n) (hn : n ≤ 12) (hf : ¬ f < 0 ∧ ¬ fa j ≤ f) (hh : ¬ rngI h 0 2) : xMet l yX_face cX_face 4 none rmX_face_h D k a B0 w [.ref (a 0), .int (nI j), .int f, .int h] eIAE := by
  have hsX0 := hsX
  obtain ⟨hsP1, hsP2, hsP3, hsP4, hsP5, hsP6, hsP7, hsP8⟩ := hsP
  refine x_ofW (by decide) rfl (fun p e s m args below meth c Q hQ htab hx hb hr hlk hml hown hts hB hG hK hS hXS ls hl => ?_)
  have hl : lv_has ls 4 [(0, .ref (a 0)), (1, .int (nI j)), (2, .int f), (3, .int h)] := hl
  have hown : s.vm.findClass RX = some m.cls := hown
  refine lv_aload_n hx hb dX_face_0 rfl (lv_at hl 0 rfl) ?_
  refine lv_iload_n hx hb dX_face_1 rfl (lv_at hl 1 rfl) ?_
  refine g_VvR (i := 0) (As := [.int (nI j)]) (rest := []) (kX_requirePart hA hsX0 ⟨hsP1, hsP2, hsP3, hsP4, hsP5, hsP6, hsP7, hsP8⟩ j (by omega) (by omega)) calX_requirePart cvX_requirePart mlX_52 hx hb hml hown hts hB hG hK hS (by decide) hsX0 rfl ⟨by decide, by decide⟩ rfl hl.1 rfl (Nat.le_of_ble_eq_true rfl) dX_face_2 ⟨by decide, by decide⟩ (fun H locs hG hS => ?_)
  refine lv_aload_n hx hb dX_face_5 rfl (lv_at hl 0 rfl) ?_
  refine g_get hx hb hts inX hown hK hG 0 (by decide) hsX0 rfl 0 (by decide) lkX_10 rfl dX_face_6 ?_
  refine lv_iload_n hx hb dX_face_9 rfl (lv_at hl 1 rfl) ?_
  refine lv_iload_n hx hb dX_face_10 rfl (lv_at hl 2 rfl) ?_
  refine g_ViR (i := 1) (As := [.int (nI j), .int f]) (rest := []) (kP_hasFace hA ⟨hsP1, hsP2, hsP3, hsP4, hsP5, hsP6, hsP7, hsP8⟩ j f (by omega)) calP_hasFace cvP_hasFace mlX_55 hx hb hml hown hts hB hG hK hS (by decide) hsP1 rfl ⟨by decide, by decide⟩ rfl hl.1 rfl (Nat.le_of_ble_eq_true rfl) dX_face_11 ⟨by decide, by decide⟩ (fun H locs hG hS => ?_)
  refine lb_if_ne (tgt := 27) hx hb dX_face_14 (by decide) (fun c1 => ?_) (fun c1 => ?_)
  · refine lv_iload_n hx hb dX_face_27 rfl (lv_at hl 3 rfl) ?_
    refine lv_if_lt (tgt := 36) hx hb dX_face_28 (by decide) (fun c2 => ?_) (fun c2 => ?_)
    · exact x_throw hQ hl9 xok_eIAE (show ((68 : Nat), "a face is 0, 1 or 2") ∈ xStr by decide +kernel) hx hb hml hown hts hG hK hS hXS hlk htab hl.1 dX_face_36 dX_face_39 dX_face_40 dX_face_42 dX_face_45 (by decide) (by decide) (by decide) (by decide) (by decide) (by decide)
    · refine lv_iload_n hx hb dX_face_31 rfl (lv_at hl 3 rfl) ?_
      refine lv_iconst (v := 2) hx hb dX_face_32 (by decide) ?_
      refine lv_icmp_le (tgt := 46) hx hb dX_face_33 (by decide) (fun c3 => ?_) (fun c3 => ?_)
      · exact absurd ⟨by assumption, Int32.not_lt.mpr (by assumption)⟩ hh
      · exact x_throw hQ hl9 xok_eIAE (show ((68 : Nat), "a face is 0, 1 or 2") ∈ xStr by decide +kernel) hx hb hml hown hts hG hK hS hXS hlk htab hl.1 dX_face_36 dX_face_39 dX_face_40 dX_face_42 dX_face_45 (by decide) (by decide) (by decide) (by decide) (by decide) (by decide)
  · exact absurd hf c1

abbrev rmX_modulus : Room := { frames := 2, cells := 0, slots := 0, locals := 58 }
set_option maxRecDepth 100000 in
set_option maxHeartbeats 4000000 in
theorem kX_modulus {l : Launch} {D : va_G} {k : ClassId × ClassId × ClassId} {a : Nat → Nat} {B0 : Nat} {w : Nat → va_E} (hA : gA B0 a) {n : Nat} {up : Nat → Int64} {lo : Nat → Int64} {fa : Nat → Int32} {we : Nat → Int32} {ti : Nat → Int32} {ri : Nat → Int32} {jo : Nat → Int32} (hsX : sX k a w ) (hsP : sP k a w n up lo fa we ti ri jo) (j : Nat) (q : Int32) (hj : j < n) (hn : n ≤ 12) (hw : rngI q 0 1) (ht : 0 < lo j) : Met l yX_modulus (tbw yX_modulus cX_modulus 3 (some .long)) rmX_modulus (gPc D k a B0 w [.ref (a 0), .int (nI j), .int q]) (va_Ql (roP (lowT (up j) (lo j) q) w) (gB D k a) (gF B0)) 0 0 (gF B0) := by
  have hsX0 := hsX
  obtain ⟨hsP1, hsP2, hsP3, hsP4, hsP5, hsP6, hsP7, hsP8⟩ := hsP
  refine g_ofW (by decide) rfl (fun p e s m args below meth c Q hQ hx hb hr hlk hml hown hts hB hG hK hS ls hl => ?_)
  have hl : lv_has ls 3 [(0, .ref (a 0)), (1, .int (nI j)), (2, .int q)] := hl
  have hown : s.vm.findClass RX = some m.cls := hown
  refine lv_aload_n hx hb dX_modulus_0 rfl (lv_at hl 0 rfl) ?_
  refine lv_iload_n hx hb dX_modulus_1 rfl (lv_at hl 1 rfl) ?_
  refine g_VvR (i := 0) (As := [.int (nI j)]) (rest := []) (kX_requirePart hA hsX0 ⟨hsP1, hsP2, hsP3, hsP4, hsP5, hsP6, hsP7, hsP8⟩ j (by omega) (by omega)) calX_requirePart cvX_requirePart mlX_52 hx hb hml hown hts hB hG hK hS (by decide) hsX0 rfl ⟨by decide, by decide⟩ rfl hl.1 rfl (Nat.le_of_ble_eq_true rfl) dX_modulus_2 ⟨by decide, by decide⟩ (fun H locs hG hS => ?_)
  refine lv_iload_n hx hb dX_modulus_5 rfl (lv_at hl 2 rfl) ?_
  refine lv_if_lt (tgt := 14) hx hb dX_modulus_6 (by decide) (fun c1 => ?_) (fun c1 => ?_)
  · exfalso
    first | exact absurd (by assumption) hw.1 | exact absurd (Int32.not_le.mp (by assumption)) hw.2
  · refine lv_iload_n hx hb dX_modulus_9 rfl (lv_at hl 2 rfl) ?_
    refine lv_iconst (v := 1) hx hb dX_modulus_10 (by decide) ?_
    refine lv_icmp_le (tgt := 24) hx hb dX_modulus_11 (by decide) (fun c2 => ?_) (fun c2 => ?_)
    · refine lv_aload_n hx hb dX_modulus_24 rfl (lv_at hl 0 rfl) ?_
      refine lv_iload_n hx hb dX_modulus_25 rfl (lv_at hl 1 rfl) ?_
      refine g_VvR (i := 0) (As := [.int (nI j)]) (rest := []) (kX_requireTold hA hsX0 ⟨hsP1, hsP2, hsP3, hsP4, hsP5, hsP6, hsP7, hsP8⟩ j (by omega) (by assumption)) calX_requireTold cvX_requireTold mlX_77 hx hb hml hown hts hB hG hK hS (by decide) hsX0 rfl ⟨by decide, by decide⟩ rfl hl.1 rfl (Nat.le_of_ble_eq_true rfl) dX_modulus_26 ⟨by decide, by decide⟩ (fun H locs hG hS => ?_)
      refine lv_aload_n hx hb dX_modulus_29 rfl (lv_at hl 0 rfl) ?_
      refine g_get hx hb hts inX hown hK hG 0 (by decide) hsX0 rfl 0 (by decide) lkX_10 rfl dX_modulus_30 ?_
      refine lv_iload_n hx hb dX_modulus_33 rfl (lv_at hl 1 rfl) ?_
      refine g_VlR (i := 1) (As := [.int (nI j)]) (rest := []) (kP_upper hA ⟨hsP1, hsP2, hsP3, hsP4, hsP5, hsP6, hsP7, hsP8⟩ j (by omega)) calP_upper cvP_upper mlX_80 hx hb hml hown hts hB hG hK hS (by decide) hsP1 rfl ⟨by decide, by decide⟩ rfl hl.1 rfl (Nat.le_of_ble_eq_true rfl) dX_modulus_34 ⟨by decide, by decide⟩ (fun H locs hG hS => ?_)
      refine lv_aload_n hx hb dX_modulus_37 rfl (lv_at hl 0 rfl) ?_
      refine g_get hx hb hts inX hown hK hG 0 (by decide) hsX0 rfl 0 (by decide) lkX_10 rfl dX_modulus_38 ?_
      refine lv_iload_n hx hb dX_modulus_41 rfl (lv_at hl 1 rfl) ?_
      refine g_VlR (i := 1) (As := [.int (nI j)]) (rest := [.long (up j)]) (kP_lower hA ⟨hsP1, hsP2, hsP3, hsP4, hsP5, hsP6, hsP7, hsP8⟩ j (by omega)) calP_lower cvP_lower mlX_84 hx hb hml hown hts hB hG hK hS (by decide) hsP1 rfl ⟨by decide, by decide⟩ rfl hl.1 rfl (Nat.le_of_ble_eq_true rfl) dX_modulus_42 ⟨by decide, by decide⟩ (fun H locs hG hS => ?_)
      refine lv_iload_n hx hb dX_modulus_45 rfl (lv_at hl 2 rfl) ?_
      refine g_SlR (As := [.long (up j), .long (lo j), .int q]) (rest := []) (kX_inLowestTerms hA (up j) (lo j) q) calX_inLowestTerms cvX_inLowestTerms mlX_87 hx hb hml hown hts hB hG hK hS ⟨by decide, by decide⟩ rfl hl.1 rfl (Nat.le_of_ble_eq_true rfl) dX_modulus_46 ⟨by decide, by decide⟩ (fun H locs hG hS => ?_)
      exact g_lret hQ hx hb hr hlk hG hK hS (by decide) (by decide) ⟨by first | rfl | omega | (simp_all; done) | grind, rfl⟩ dX_modulus_49
    · exfalso
      first | exact absurd (by assumption) hw.1 | exact absurd (Int32.not_le.mp (by assumption)) hw.2

abbrev rmX_modulus_p : Room := { frames := 7, cells := 1, slots := 6, locals := 103 }
set_option maxRecDepth 100000 in
set_option maxHeartbeats 4000000 in
theorem kX_modulus_p {l : Launch} (hl9 : l.stackTraces = false) {D : va_G} {k : ClassId × ClassId × ClassId} {a : Nat → Nat} {B0 : Nat} {w : Nat → va_E} (hA : gA B0 a) {n : Nat} {up : Nat → Int64} {lo : Nat → Int64} {fa : Nat → Int32} {we : Nat → Int32} {ti : Nat → Int32} {ri : Nat → Int32} {jo : Nat → Int32} (hsX : sX k a w ) (hsP : sP k a w n up lo fa we ti ri jo) (q : Int32) (r : Int32) (hq : ¬ (¬ q < 0 ∧ ¬ nI n ≤ q)) : xMet l yX_modulus cX_modulus 3 (some .long) rmX_modulus_p D k a B0 w [.ref (a 0), .int q, .int r] eIOB := by
  have hsX0 := hsX
  obtain ⟨hsP1, hsP2, hsP3, hsP4, hsP5, hsP6, hsP7, hsP8⟩ := hsP
  refine x_ofW (by decide) rfl (fun p e s m args below meth c Q hQ htab hx hb hr hlk hml hown hts hB hG hK hS hXS ls hl => ?_)
  have hl : lv_has ls 3 [(0, .ref (a 0)), (1, .int q), (2, .int r)] := hl
  have hown : s.vm.findClass RX = some m.cls := hown
  refine lv_aload_n hx hb dX_modulus_0 rfl (lv_at hl 0 rfl) ?_
  refine lv_iload_n hx hb dX_modulus_1 rfl (lv_at hl 1 rfl) ?_
  exact x_VB (i := 0) (As := [.int q]) (rest := []) hQ htab hlk (kX_requirePart_b hl9 hA hsX0 ⟨hsP1, hsP2, hsP3, hsP4, hsP5, hsP6, hsP7, hsP8⟩ q (by assumption)) calX_requirePart cvX_requirePart mlX_52 hx hb hml hown hts hB hG hK hS hXS (by decide) hsX0 rfl ⟨by decide, by decide⟩ rfl hl.1 rfl (Nat.le_of_ble_eq_true rfl) dX_modulus_2 ⟨by decide, by decide⟩ (by decide) (by decide)

abbrev rmX_modulus_w : Room := { frames := 7, cells := 1, slots := 6, locals := 103 }
set_option maxRecDepth 100000 in
set_option maxHeartbeats 4000000 in
theorem kX_modulus_w {l : Launch} (hl9 : l.stackTraces = false) {D : va_G} {k : ClassId × ClassId × ClassId} {a : Nat → Nat} {B0 : Nat} {w : Nat → va_E} (hA : gA B0 a) {n : Nat} {up : Nat → Int64} {lo : Nat → Int64} {fa : Nat → Int32} {we : Nat → Int32} {ti : Nat → Int32} {ri : Nat → Int32} {jo : Nat → Int32} (hsX : sX k a w ) (hsP : sP k a w n up lo fa we ti ri jo) (j : Nat) (r : Int32) (hj : j < n) (hn : n ≤ 12) (hw : ¬ rngI r 0 1) : xMet l yX_modulus cX_modulus 3 (some .long) rmX_modulus_w D k a B0 w [.ref (a 0), .int (nI j), .int r] eIOB := by
  have hsX0 := hsX
  obtain ⟨hsP1, hsP2, hsP3, hsP4, hsP5, hsP6, hsP7, hsP8⟩ := hsP
  refine x_ofW (by decide) rfl (fun p e s m args below meth c Q hQ htab hx hb hr hlk hml hown hts hB hG hK hS hXS ls hl => ?_)
  have hl : lv_has ls 3 [(0, .ref (a 0)), (1, .int (nI j)), (2, .int r)] := hl
  have hown : s.vm.findClass RX = some m.cls := hown
  refine lv_aload_n hx hb dX_modulus_0 rfl (lv_at hl 0 rfl) ?_
  refine lv_iload_n hx hb dX_modulus_1 rfl (lv_at hl 1 rfl) ?_
  refine g_VvR (i := 0) (As := [.int (nI j)]) (rest := []) (kX_requirePart hA hsX0 ⟨hsP1, hsP2, hsP3, hsP4, hsP5, hsP6, hsP7, hsP8⟩ j (by omega) (by omega)) calX_requirePart cvX_requirePart mlX_52 hx hb hml hown hts hB hG hK hS (by decide) hsX0 rfl ⟨by decide, by decide⟩ rfl hl.1 rfl (Nat.le_of_ble_eq_true rfl) dX_modulus_2 ⟨by decide, by decide⟩ (fun H locs hG hS => ?_)
  refine lv_iload_n hx hb dX_modulus_5 rfl (lv_at hl 2 rfl) ?_
  refine lv_if_lt (tgt := 14) hx hb dX_modulus_6 (by decide) (fun c1 => ?_) (fun c1 => ?_)
  · exact x_throw hQ hl9 xok_eIOB (show ((75 : Nat), "a fraction has the parts 0 and 1") ∈ xStr by decide +kernel) hx hb hml hown hts hG hK hS hXS hlk htab hl.1 dX_modulus_14 dX_modulus_17 dX_modulus_18 dX_modulus_20 dX_modulus_23 (by decide) (by decide) (by decide) (by decide) (by decide) (by decide)
  · refine lv_iload_n hx hb dX_modulus_9 rfl (lv_at hl 2 rfl) ?_
    refine lv_iconst (v := 1) hx hb dX_modulus_10 (by decide) ?_
    refine lv_icmp_le (tgt := 24) hx hb dX_modulus_11 (by decide) (fun c2 => ?_) (fun c2 => ?_)
    · exact absurd ⟨by assumption, Int32.not_lt.mpr (by assumption)⟩ hw
    · exact x_throw hQ hl9 xok_eIOB (show ((75 : Nat), "a fraction has the parts 0 and 1") ∈ xStr by decide +kernel) hx hb hml hown hts hG hK hS hXS hlk htab hl.1 dX_modulus_14 dX_modulus_17 dX_modulus_18 dX_modulus_20 dX_modulus_23 (by decide) (by decide) (by decide) (by decide) (by decide) (by decide)

abbrev rmX_modulus_t : Room := { frames := 7, cells := 1, slots := 6, locals := 103 }
set_option maxRecDepth 100000 in
set_option maxHeartbeats 4000000 in
theorem kX_modulus_t {l : Launch} (hl9 : l.stackTraces = false) {D : va_G} {k : ClassId × ClassId × ClassId} {a : Nat → Nat} {B0 : Nat} {w : Nat → va_E} (hA : gA B0 a) {n : Nat} {up : Nat → Int64} {lo : Nat → Int64} {fa : Nat → Int32} {we : Nat → Int32} {ti : Nat → Int32} {ri : Nat → Int32} {jo : Nat → Int32} (hsX : sX k a w ) (hsP : sP k a w n up lo fa we ti ri jo) (j : Nat) (r : Int32) (hj : j < n) (hn : n ≤ 12) (hw : rngI r 0 1) (ht : ¬ 0 < lo j) : xMet l yX_modulus cX_modulus 3 (some .long) rmX_modulus_t D k a B0 w [.ref (a 0), .int (nI j), .int r] eUOE := by
  have hsX0 := hsX
  obtain ⟨hsP1, hsP2, hsP3, hsP4, hsP5, hsP6, hsP7, hsP8⟩ := hsP
  refine x_ofW (by decide) rfl (fun p e s m args below meth c Q hQ htab hx hb hr hlk hml hown hts hB hG hK hS hXS ls hl => ?_)
  have hl : lv_has ls 3 [(0, .ref (a 0)), (1, .int (nI j)), (2, .int r)] := hl
  have hown : s.vm.findClass RX = some m.cls := hown
  refine lv_aload_n hx hb dX_modulus_0 rfl (lv_at hl 0 rfl) ?_
  refine lv_iload_n hx hb dX_modulus_1 rfl (lv_at hl 1 rfl) ?_
  refine g_VvR (i := 0) (As := [.int (nI j)]) (rest := []) (kX_requirePart hA hsX0 ⟨hsP1, hsP2, hsP3, hsP4, hsP5, hsP6, hsP7, hsP8⟩ j (by omega) (by omega)) calX_requirePart cvX_requirePart mlX_52 hx hb hml hown hts hB hG hK hS (by decide) hsX0 rfl ⟨by decide, by decide⟩ rfl hl.1 rfl (Nat.le_of_ble_eq_true rfl) dX_modulus_2 ⟨by decide, by decide⟩ (fun H locs hG hS => ?_)
  refine lv_iload_n hx hb dX_modulus_5 rfl (lv_at hl 2 rfl) ?_
  refine lv_if_lt (tgt := 14) hx hb dX_modulus_6 (by decide) (fun c1 => ?_) (fun c1 => ?_)
  · exfalso
    first | exact absurd (by assumption) hw.1 | exact absurd (Int32.not_le.mp (by assumption)) hw.2
  · refine lv_iload_n hx hb dX_modulus_9 rfl (lv_at hl 2 rfl) ?_
    refine lv_iconst (v := 1) hx hb dX_modulus_10 (by decide) ?_
    refine lv_icmp_le (tgt := 24) hx hb dX_modulus_11 (by decide) (fun c2 => ?_) (fun c2 => ?_)
    · refine lv_aload_n hx hb dX_modulus_24 rfl (lv_at hl 0 rfl) ?_
      refine lv_iload_n hx hb dX_modulus_25 rfl (lv_at hl 1 rfl) ?_
      exact x_VB (i := 0) (As := [.int (nI j)]) (rest := []) hQ htab hlk (kX_requireTold_b hl9 hA hsX0 ⟨hsP1, hsP2, hsP3, hsP4, hsP5, hsP6, hsP7, hsP8⟩ j (by omega) (by assumption)) calX_requireTold cvX_requireTold mlX_77 hx hb hml hown hts hB hG hK hS hXS (by decide) hsX0 rfl ⟨by decide, by decide⟩ rfl hl.1 rfl (Nat.le_of_ble_eq_true rfl) dX_modulus_26 ⟨by decide, by decide⟩ (by decide) (by decide)
    · exfalso
      first | exact absurd (by assumption) hw.1 | exact absurd (Int32.not_le.mp (by assumption)) hw.2

abbrev rmX_join : Room := { frames := 2, cells := 0, slots := 0, locals := 42 }
set_option maxRecDepth 100000 in
set_option maxHeartbeats 4000000 in
theorem kX_join {l : Launch} {D : va_G} {k : ClassId × ClassId × ClassId} {a : Nat → Nat} {B0 : Nat} {w : Nat → va_E} (hA : gA B0 a) {n : Nat} {up : Nat → Int64} {lo : Nat → Int64} {fa : Nat → Int32} {we : Nat → Int32} {ti : Nat → Int32} {ri : Nat → Int32} {jo : Nat → Int32} (hsX : sX k a w ) (hsP : sP k a w n up lo fa we ti ri jo) (j : Nat) (i : Nat) (P : Prop) (hj : j < n) (hn : n ≤ 12) (hi : i < n) (hji : ¬ j = i) (hjo : ∀ z, z < 144 → narrow .boolean (.int (jo z)) = .int (jo z)) (hne : ¬ jo (j * 12 + i) = b2i P) : Met l yX_join (tbw yX_join cX_join 4 none) rmX_join (gPc D k a B0 w [.ref (a 0), .int (nI j), .int (nI i), .int (b2i P)]) (va_Qv (fun w1 => (sP k a w1 n up lo fa we ti ri (upd (upd jo (j * 12 + i) (b2i P)) (i * 12 + j) (b2i P))) ∧ ∀ z, z < 1 ∨ 8 < z → w1 z = w z) (gB D k a) (gF B0)) 0 0 (gF B0) := by
  have hsX0 := hsX
  obtain ⟨hsP1, hsP2, hsP3, hsP4, hsP5, hsP6, hsP7, hsP8⟩ := hsP
  refine g_ofW (by decide) rfl (fun p e s m args below meth c Q hQ hx hb hr hlk hml hown hts hB hG hK hS ls hl => ?_)
  have hl : lv_has ls 4 [(0, .ref (a 0)), (1, .int (nI j)), (2, .int (nI i)), (3, .int (b2i P))] := hl
  have hown : s.vm.findClass RX = some m.cls := hown
  have hfr0 : ∀ z, z < 1 ∨ 8 < z → w z = w z := fun _ _ => rfl
  refine lv_aload_n hx hb dX_join_0 rfl (lv_at hl 0 rfl) ?_
  refine lv_iload_n hx hb dX_join_1 rfl (lv_at hl 1 rfl) ?_
  refine g_VvR (i := 0) (As := [.int (nI j)]) (rest := []) (kX_requirePart hA hsX0 ⟨hsP1, hsP2, hsP3, hsP4, hsP5, hsP6, hsP7, hsP8⟩ j (by omega) (by omega)) calX_requirePart cvX_requirePart mlX_52 hx hb hml hown hts hB hG hK hS (by decide) hsX0 rfl ⟨by decide, by decide⟩ rfl hl.1 rfl (Nat.le_of_ble_eq_true rfl) dX_join_2 ⟨by decide, by decide⟩ (fun H locs hG hS => ?_)
  refine lv_aload_n hx hb dX_join_5 rfl (lv_at hl 0 rfl) ?_
  refine lv_iload_n hx hb dX_join_6 rfl (lv_at hl 2 rfl) ?_
  refine g_VvR (i := 0) (As := [.int (nI i)]) (rest := []) (kX_requirePart hA hsX0 ⟨hsP1, hsP2, hsP3, hsP4, hsP5, hsP6, hsP7, hsP8⟩ i (by omega) (by omega)) calX_requirePart cvX_requirePart mlX_52 hx hb hml hown hts hB hG hK hS (by decide) hsX0 rfl ⟨by decide, by decide⟩ rfl hl.1 rfl (Nat.le_of_ble_eq_true rfl) dX_join_7 ⟨by decide, by decide⟩ (fun H locs hG hS => ?_)
  refine lv_iload_n hx hb dX_join_10 rfl (lv_at hl 1 rfl) ?_
  refine lv_iload_n hx hb dX_join_11 rfl (lv_at hl 2 rfl) ?_
  refine ln_icmp_ne (x := j) (y := i) (tgt := 25) hx hb dX_join_12 (by decide) (by omega) (by omega) (fun c1 => ?_) (fun c1 => ?_)
  · refine lv_aload_n hx hb dX_join_25 rfl (lv_at hl 0 rfl) ?_
    refine g_get hx hb hts inX hown hK hG 0 (by decide) hsX0 rfl 0 (by decide) lkX_10 rfl dX_join_26 ?_
    refine lv_iload_n hx hb dX_join_29 rfl (lv_at hl 1 rfl) ?_
    refine lv_iload_n hx hb dX_join_30 rfl (lv_at hl 2 rfl) ?_
    refine g_ViR (i := 1) (As := [.int (nI j), .int (nI i)]) (rest := []) (kP_areJoined hA ⟨hsP1, hsP2, hsP3, hsP4, hsP5, hsP6, hsP7, hsP8⟩ j i (by omega) (by omega) (hjo _ (by omega))) calP_areJoined cvP_areJoined mlX_93 hx hb hml hown hts hB hG hK hS (by decide) hsP1 rfl ⟨by decide, by decide⟩ rfl hl.1 rfl (Nat.le_of_ble_eq_true rfl) dX_join_31 ⟨by decide, by decide⟩ (fun H locs hG hS => ?_)
    refine lv_iload_n hx hb dX_join_34 rfl (lv_at hl 3 rfl) ?_
    refine lv_icmp_ne (tgt := 48) hx hb dX_join_35 (by decide) (fun c2 => ?_) (fun c2 => ?_)
    · refine lv_aload_n hx hb dX_join_48 rfl (lv_at hl 0 rfl) ?_
      refine g_get hx hb hts inX hown hK hG 0 (by decide) hsX0 rfl 0 (by decide) lkX_10 rfl dX_join_49 ?_
      refine lv_iload_n hx hb dX_join_52 rfl (lv_at hl 1 rfl) ?_
      refine lv_iload_n hx hb dX_join_53 rfl (lv_at hl 2 rfl) ?_
      refine lv_iload_n hx hb dX_join_54 rfl (lv_at hl 3 rfl) ?_
      refine g_Vv (i := 1) (As := [.int (nI j), .int (nI i), .int (b2i P)]) (rest := []) (kP_setJoined hA ⟨hsP1, hsP2, hsP3, hsP4, hsP5, hsP6, hsP7, hsP8⟩ j i P (by omega) (by omega)) calP_setJoined cvP_setJoined mlX_101 hx hb hml hown hts hB hG hK hS (by decide) hsP1 rfl ⟨by decide, by decide⟩ rfl hl.1 rfl (Nat.le_of_ble_eq_true rfl) dX_join_55 ⟨by decide, by decide⟩ (fun w4 H locs hp5 hG hS => ?_)
      obtain ⟨⟨h6, h7, h8, h9, h10, h11, h12, h13⟩, hfr15⟩ := hp5
      have h16 : w4 0 = .inr (0, [.ref (a 1), .ref (a 9), .ref (a 12), .ref (a 15)]) := (hfr15 0 (by omega)).trans hsX0
      have hfr17 : ∀ z, z < 1 ∨ 8 < z → w4 z = w z := fun z hz => (hfr15 z (by omega)).trans (hfr0 z hz)
      exact g_vret hQ hx hb hr hlk hG hK hS (by decide) (by decide) ⟨⟨h6, h7, h8, h9, h10, h11, h12, h13⟩, hfr17⟩ dX_join_58
    · exfalso
      first | omega | contradiction | (simp_all; done) | grind
  · exfalso
    first | omega | contradiction | (simp_all; done) | grind

abbrev rmX_join_p : Room := { frames := 7, cells := 1, slots := 6, locals := 103 }
set_option maxRecDepth 100000 in
set_option maxHeartbeats 4000000 in
theorem kX_join_p {l : Launch} (hl9 : l.stackTraces = false) {D : va_G} {k : ClassId × ClassId × ClassId} {a : Nat → Nat} {B0 : Nat} {w : Nat → va_E} (hA : gA B0 a) {n : Nat} {up : Nat → Int64} {lo : Nat → Int64} {fa : Nat → Int32} {we : Nat → Int32} {ti : Nat → Int32} {ri : Nat → Int32} {jo : Nat → Int32} (hsX : sX k a w ) (hsP : sP k a w n up lo fa we ti ri jo) (q : Int32) (r : Int32) (P : Prop) (hq : ¬ (¬ q < 0 ∧ ¬ nI n ≤ q)) : xMet l yX_join cX_join 4 none rmX_join_p D k a B0 w [.ref (a 0), .int q, .int r, .int (b2i P)] eIOB := by
  have hsX0 := hsX
  obtain ⟨hsP1, hsP2, hsP3, hsP4, hsP5, hsP6, hsP7, hsP8⟩ := hsP
  refine x_ofW (by decide) rfl (fun p e s m args below meth c Q hQ htab hx hb hr hlk hml hown hts hB hG hK hS hXS ls hl => ?_)
  have hl : lv_has ls 4 [(0, .ref (a 0)), (1, .int q), (2, .int r), (3, .int (b2i P))] := hl
  have hown : s.vm.findClass RX = some m.cls := hown
  refine lv_aload_n hx hb dX_join_0 rfl (lv_at hl 0 rfl) ?_
  refine lv_iload_n hx hb dX_join_1 rfl (lv_at hl 1 rfl) ?_
  exact x_VB (i := 0) (As := [.int q]) (rest := []) hQ htab hlk (kX_requirePart_b hl9 hA hsX0 ⟨hsP1, hsP2, hsP3, hsP4, hsP5, hsP6, hsP7, hsP8⟩ q (by assumption)) calX_requirePart cvX_requirePart mlX_52 hx hb hml hown hts hB hG hK hS hXS (by decide) hsX0 rfl ⟨by decide, by decide⟩ rfl hl.1 rfl (Nat.le_of_ble_eq_true rfl) dX_join_2 ⟨by decide, by decide⟩ (by decide) (by decide)

abbrev rmX_join_r : Room := { frames := 7, cells := 1, slots := 6, locals := 103 }
set_option maxRecDepth 100000 in
set_option maxHeartbeats 4000000 in
theorem kX_join_r {l : Launch} (hl9 : l.stackTraces = false) {D : va_G} {k : ClassId × ClassId × ClassId} {a : Nat → Nat} {B0 : Nat} {w : Nat → va_E} (hA : gA B0 a) {n : Nat} {up : Nat → Int64} {lo : Nat → Int64} {fa : Nat → Int32} {we : Nat → Int32} {ti : Nat → Int32} {ri : Nat → Int32} {jo : Nat → Int32} (hsX : sX k a w ) (hsP : sP k a w n up lo fa we ti ri jo) (j : Nat) (q : Int32) (P : Prop) (hj : j < n) (hn : n ≤ 12) (hq : ¬ (¬ q < 0 ∧ ¬ nI n ≤ q)) : xMet l yX_join cX_join 4 none rmX_join_r D k a B0 w [.ref (a 0), .int (nI j), .int q, .int (b2i P)] eIOB := by
  have hsX0 := hsX
  obtain ⟨hsP1, hsP2, hsP3, hsP4, hsP5, hsP6, hsP7, hsP8⟩ := hsP
  refine x_ofW (by decide) rfl (fun p e s m args below meth c Q hQ htab hx hb hr hlk hml hown hts hB hG hK hS hXS ls hl => ?_)
  have hl : lv_has ls 4 [(0, .ref (a 0)), (1, .int (nI j)), (2, .int q), (3, .int (b2i P))] := hl
  have hown : s.vm.findClass RX = some m.cls := hown
  refine lv_aload_n hx hb dX_join_0 rfl (lv_at hl 0 rfl) ?_
  refine lv_iload_n hx hb dX_join_1 rfl (lv_at hl 1 rfl) ?_
  refine g_VvR (i := 0) (As := [.int (nI j)]) (rest := []) (kX_requirePart hA hsX0 ⟨hsP1, hsP2, hsP3, hsP4, hsP5, hsP6, hsP7, hsP8⟩ j (by omega) (by omega)) calX_requirePart cvX_requirePart mlX_52 hx hb hml hown hts hB hG hK hS (by decide) hsX0 rfl ⟨by decide, by decide⟩ rfl hl.1 rfl (Nat.le_of_ble_eq_true rfl) dX_join_2 ⟨by decide, by decide⟩ (fun H locs hG hS => ?_)
  refine lv_aload_n hx hb dX_join_5 rfl (lv_at hl 0 rfl) ?_
  refine lv_iload_n hx hb dX_join_6 rfl (lv_at hl 2 rfl) ?_
  exact x_VB (i := 0) (As := [.int q]) (rest := []) hQ htab hlk (kX_requirePart_b hl9 hA hsX0 ⟨hsP1, hsP2, hsP3, hsP4, hsP5, hsP6, hsP7, hsP8⟩ q (by assumption)) calX_requirePart cvX_requirePart mlX_52 hx hb hml hown hts hB hG hK hS hXS (by decide) hsX0 rfl ⟨by decide, by decide⟩ rfl hl.1 rfl (Nat.le_of_ble_eq_true rfl) dX_join_7 ⟨by decide, by decide⟩ (by decide) (by decide)

abbrev rmX_join_s : Room := { frames := 7, cells := 1, slots := 6, locals := 103 }
set_option maxRecDepth 100000 in
set_option maxHeartbeats 4000000 in
theorem kX_join_s {l : Launch} (hl9 : l.stackTraces = false) {D : va_G} {k : ClassId × ClassId × ClassId} {a : Nat → Nat} {B0 : Nat} {w : Nat → va_E} (hA : gA B0 a) {n : Nat} {up : Nat → Int64} {lo : Nat → Int64} {fa : Nat → Int32} {we : Nat → Int32} {ti : Nat → Int32} {ri : Nat → Int32} {jo : Nat → Int32} (hsX : sX k a w ) (hsP : sP k a w n up lo fa we ti ri jo) (j : Nat) (i : Nat) (P : Prop) (hj : j < n) (hn : n ≤ 12) (hi : i < n) (hji : j = i) : xMet l yX_join cX_join 4 none rmX_join_s D k a B0 w [.ref (a 0), .int (nI j), .int (nI i), .int (b2i P)] eIOB := by
  have hsX0 := hsX
  obtain ⟨hsP1, hsP2, hsP3, hsP4, hsP5, hsP6, hsP7, hsP8⟩ := hsP
  refine x_ofW (by decide) rfl (fun p e s m args below meth c Q hQ htab hx hb hr hlk hml hown hts hB hG hK hS hXS ls hl => ?_)
  have hl : lv_has ls 4 [(0, .ref (a 0)), (1, .int (nI j)), (2, .int (nI i)), (3, .int (b2i P))] := hl
  have hown : s.vm.findClass RX = some m.cls := hown
  refine lv_aload_n hx hb dX_join_0 rfl (lv_at hl 0 rfl) ?_
  refine lv_iload_n hx hb dX_join_1 rfl (lv_at hl 1 rfl) ?_
  refine g_VvR (i := 0) (As := [.int (nI j)]) (rest := []) (kX_requirePart hA hsX0 ⟨hsP1, hsP2, hsP3, hsP4, hsP5, hsP6, hsP7, hsP8⟩ j (by omega) (by omega)) calX_requirePart cvX_requirePart mlX_52 hx hb hml hown hts hB hG hK hS (by decide) hsX0 rfl ⟨by decide, by decide⟩ rfl hl.1 rfl (Nat.le_of_ble_eq_true rfl) dX_join_2 ⟨by decide, by decide⟩ (fun H locs hG hS => ?_)
  refine lv_aload_n hx hb dX_join_5 rfl (lv_at hl 0 rfl) ?_
  refine lv_iload_n hx hb dX_join_6 rfl (lv_at hl 2 rfl) ?_
  refine g_VvR (i := 0) (As := [.int (nI i)]) (rest := []) (kX_requirePart hA hsX0 ⟨hsP1, hsP2, hsP3, hsP4, hsP5, hsP6, hsP7, hsP8⟩ i (by omega) (by omega)) calX_requirePart cvX_requirePart mlX_52 hx hb hml hown hts hB hG hK hS (by decide) hsX0 rfl ⟨by decide, by decide⟩ rfl hl.1 rfl (Nat.le_of_ble_eq_true rfl) dX_join_7 ⟨by decide, by decide⟩ (fun H locs hG hS => ?_)
  refine lv_iload_n hx hb dX_join_10 rfl (lv_at hl 1 rfl) ?_
  refine lv_iload_n hx hb dX_join_11 rfl (lv_at hl 2 rfl) ?_
  refine ln_icmp_ne (x := j) (y := i) (tgt := 25) hx hb dX_join_12 (by decide) (by omega) (by omega) (fun c1 => ?_) (fun c1 => ?_)
  · exact absurd hji c1
  · exact x_throw hQ hl9 xok_eIOB (show ((91 : Nat), "a part is not joined to itself") ∈ xStr by decide +kernel) hx hb hml hown hts hG hK hS hXS hlk htab hl.1 dX_join_15 dX_join_18 dX_join_19 dX_join_21 dX_join_24 (by decide) (by decide) (by decide) (by decide) (by decide) (by decide)

abbrev rmX_join_e : Room := { frames := 7, cells := 1, slots := 6, locals := 103 }
set_option maxRecDepth 100000 in
set_option maxHeartbeats 4000000 in
theorem kX_join_e {l : Launch} (hl9 : l.stackTraces = false) {D : va_G} {k : ClassId × ClassId × ClassId} {a : Nat → Nat} {B0 : Nat} {w : Nat → va_E} (hA : gA B0 a) {n : Nat} {up : Nat → Int64} {lo : Nat → Int64} {fa : Nat → Int32} {we : Nat → Int32} {ti : Nat → Int32} {ri : Nat → Int32} {jo : Nat → Int32} (hsX : sX k a w ) (hsP : sP k a w n up lo fa we ti ri jo) (j : Nat) (i : Nat) (P : Prop) (hj : j < n) (hn : n ≤ 12) (hi : i < n) (hji : ¬ j = i) (hjo : ∀ z, z < 144 → narrow .boolean (.int (jo z)) = .int (jo z)) (he : jo (j * 12 + i) = b2i P) : xMet l yX_join cX_join 4 none rmX_join_e D k a B0 w [.ref (a 0), .int (nI j), .int (nI i), .int (b2i P)] eISE := by
  have hsX0 := hsX
  obtain ⟨hsP1, hsP2, hsP3, hsP4, hsP5, hsP6, hsP7, hsP8⟩ := hsP
  refine x_ofW (by decide) rfl (fun p e s m args below meth c Q hQ htab hx hb hr hlk hml hown hts hB hG hK hS hXS ls hl => ?_)
  have hl : lv_has ls 4 [(0, .ref (a 0)), (1, .int (nI j)), (2, .int (nI i)), (3, .int (b2i P))] := hl
  have hown : s.vm.findClass RX = some m.cls := hown
  refine lv_aload_n hx hb dX_join_0 rfl (lv_at hl 0 rfl) ?_
  refine lv_iload_n hx hb dX_join_1 rfl (lv_at hl 1 rfl) ?_
  refine g_VvR (i := 0) (As := [.int (nI j)]) (rest := []) (kX_requirePart hA hsX0 ⟨hsP1, hsP2, hsP3, hsP4, hsP5, hsP6, hsP7, hsP8⟩ j (by omega) (by omega)) calX_requirePart cvX_requirePart mlX_52 hx hb hml hown hts hB hG hK hS (by decide) hsX0 rfl ⟨by decide, by decide⟩ rfl hl.1 rfl (Nat.le_of_ble_eq_true rfl) dX_join_2 ⟨by decide, by decide⟩ (fun H locs hG hS => ?_)
  refine lv_aload_n hx hb dX_join_5 rfl (lv_at hl 0 rfl) ?_
  refine lv_iload_n hx hb dX_join_6 rfl (lv_at hl 2 rfl) ?_
  refine g_VvR (i := 0) (As := [.int (nI i)]) (rest := []) (kX_requirePart hA hsX0 ⟨hsP1, hsP2, hsP3, hsP4, hsP5, hsP6, hsP7, hsP8⟩ i (by omega) (by omega)) calX_requirePart cvX_requirePart mlX_52 hx hb hml hown hts hB hG hK hS (by decide) hsX0 rfl ⟨by decide, by decide⟩ rfl hl.1 rfl (Nat.le_of_ble_eq_true rfl) dX_join_7 ⟨by decide, by decide⟩ (fun H locs hG hS => ?_)
  refine lv_iload_n hx hb dX_join_10 rfl (lv_at hl 1 rfl) ?_
  refine lv_iload_n hx hb dX_join_11 rfl (lv_at hl 2 rfl) ?_
  refine ln_icmp_ne (x := j) (y := i) (tgt := 25) hx hb dX_join_12 (by decide) (by omega) (by omega) (fun c1 => ?_) (fun c1 => ?_)
  · refine lv_aload_n hx hb dX_join_25 rfl (lv_at hl 0 rfl) ?_
    refine g_get hx hb hts inX hown hK hG 0 (by decide) hsX0 rfl 0 (by decide) lkX_10 rfl dX_join_26 ?_
    refine lv_iload_n hx hb dX_join_29 rfl (lv_at hl 1 rfl) ?_
    refine lv_iload_n hx hb dX_join_30 rfl (lv_at hl 2 rfl) ?_
    refine g_ViR (i := 1) (As := [.int (nI j), .int (nI i)]) (rest := []) (kP_areJoined hA ⟨hsP1, hsP2, hsP3, hsP4, hsP5, hsP6, hsP7, hsP8⟩ j i (by omega) (by omega) (hjo _ (by omega))) calP_areJoined cvP_areJoined mlX_93 hx hb hml hown hts hB hG hK hS (by decide) hsP1 rfl ⟨by decide, by decide⟩ rfl hl.1 rfl (Nat.le_of_ble_eq_true rfl) dX_join_31 ⟨by decide, by decide⟩ (fun H locs hG hS => ?_)
    refine lv_iload_n hx hb dX_join_34 rfl (lv_at hl 3 rfl) ?_
    refine lv_icmp_ne (tgt := 48) hx hb dX_join_35 (by decide) (fun c2 => ?_) (fun c2 => ?_)
    · exact absurd he c2
    · exact x_throw hQ hl9 xok_eISE (show ((98 : Nat), "the parts are so already") ∈ xStr by decide +kernel) hx hb hml hown hts hG hK hS hXS hlk htab hl.1 dX_join_38 dX_join_41 dX_join_42 dX_join_44 dX_join_47 (by decide) (by decide) (by decide) (by decide) (by decide) (by decide)
  · exact absurd c1 hji

abbrev rmX_order : Room := { frames := 4, cells := 0, slots := 0, locals := 91 }
set_option maxRecDepth 100000 in
set_option maxHeartbeats 4000000 in
theorem kX_order {l : Launch} {D : va_G} {k : ClassId × ClassId × ClassId} {a : Nat → Nat} {B0 : Nat} {w : Nat → va_E} (hA : gA B0 a) {n : Nat} {up : Nat → Int64} {lo : Nat → Int64} {fa : Nat → Int32} {we : Nat → Int32} {ti : Nat → Int32} {ri : Nat → Int32} {jo : Nat → Int32} (hsX : sX k a w ) (hsP : sP k a w n up lo fa we ti ri jo) (q : Int32) (hq : ¬ q < 0) (hn : n ≤ 12) : Met l yX_order (tbw yX_order cX_order 3 (some .int)) rmX_order (gPc D k a B0 w [.ref (a 0), .int q]) (va_Qi (roP (fstF (rOrdP up lo n q) n 0) w) (gB D k a) (gF B0)) 0 0 (gF B0) := by
  have hsX0 := hsX
  obtain ⟨hsP1, hsP2, hsP3, hsP4, hsP5, hsP6, hsP7, hsP8⟩ := hsP
  refine g_ofW (by decide) rfl (fun p e s m args below meth c Q hQ hx hb hr hlk hml hown hts hB hG hK hS ls hl => ?_)
  have hl : lv_has ls 3 [(0, .ref (a 0)), (1, .int q)] := hl
  have hown : s.vm.findClass RX = some m.cls := hown
  refine lv_iload_n hx hb dX_order_0 rfl (lv_at hl 1 rfl) ?_
  refine g_SvR (As := [.int q]) (rest := []) (kX_requireNotBelowZero hA q (by assumption)) calX_requireNotBelowZero cvX_requireNotBelowZero mlX_105 hx hb hml hown hts hB hG hK hS ⟨by decide, by decide⟩ rfl hl.1 rfl (Nat.le_of_ble_eq_true rfl) dX_order_1 ⟨by decide, by decide⟩ (fun H locs hG hS => ?_)
  refine lv_iconst (v := 0) hx hb dX_order_4 (by decide) ?_
  refine lv_istore_n (lv' := [(2, .int 0), (0, .ref (a 0)), (1, .int q)]) hx hb dX_order_5 rfl hl (by decide) rfl (fun ls hl => ?_)
  have loop6 : ∀ (k9 : Nat) (i : Nat) (hi : i + k9 = n) (hres : fstF (rOrdP up lo n q) k9 i = fstF (rOrdP up lo n q) n 0) (H : Heap) (locs : List Loc) (ls : Array Slot), gW D a w H → va_S (gF B0) s.heap H locs → lv_has ls 3 [(0, .ref (a 0)), (1, .int q), (2, .int (nI i))] → W p l e rmX_order s m args below meth c H locs 0 0 Q (F0 m 6 ls []) := by
    intro k9
    induction k9 using Nat.strongRecOn with
    | _ k9 ih6 =>
      intro i hi hres H locs ls hG hS hl
      refine lv_iload_n hx hb dX_order_6 rfl (lv_at hl 2 rfl) ?_
      refine lv_aload_n hx hb dX_order_7 rfl (lv_at hl 0 rfl) ?_
      refine g_get hx hb hts inX hown hK hG 0 (by decide) hsX0 rfl 0 (by decide) lkX_10 rfl dX_order_8 ?_
      refine g_ViR (i := 1) (As := []) (rest := [.int (nI i)]) (kP_count hA ⟨hsP1, hsP2, hsP3, hsP4, hsP5, hsP6, hsP7, hsP8⟩) calP_count cvP_count mlX_108 hx hb hml hown hts hB hG hK hS (by decide) hsP1 rfl ⟨by decide, by decide⟩ rfl hl.1 rfl (Nat.le_of_ble_eq_true rfl) dX_order_11 ⟨by decide, by decide⟩ (fun H locs hG hS => ?_)
      refine ln_icmp_ge (x := i) (y := n) (tgt := 48) hx hb dX_order_14 (by decide) (by omega) (by omega) (fun c1 => ?_) (fun c1 => ?_)
      · obtain rfl : k9 = 0 := by omega
        refine lv_iconst (v := (-1)) hx hb dX_order_48 (by decide) ?_
        exact g_iret hQ hx hb hr hlk hG hK hS (by decide) (by decide) ⟨by exact hres, rfl⟩ dX_order_49
      · obtain ⟨k8, rfl⟩ : ∃ z, k9 = z + 1 := ⟨k9 - 1, by omega⟩
        refine lv_aload_n hx hb dX_order_17 rfl (lv_at hl 0 rfl) ?_
        refine g_get hx hb hts inX hown hK hG 0 (by decide) hsX0 rfl 0 (by decide) lkX_10 rfl dX_order_18 ?_
        refine lv_iload_n hx hb dX_order_21 rfl (lv_at hl 2 rfl) ?_
        refine g_ViR (i := 1) (As := [.int (nI i)]) (rest := []) (kP_isTold hA ⟨hsP1, hsP2, hsP3, hsP4, hsP5, hsP6, hsP7, hsP8⟩ i (by omega)) calP_isTold cvP_isTold mlX_112 hx hb hml hown hts hB hG hK hS (by decide) hsP1 rfl ⟨by decide, by decide⟩ rfl hl.1 rfl (Nat.le_of_ble_eq_true rfl) dX_order_22 ⟨by decide, by decide⟩ (fun H locs hG hS => ?_)
        refine lb_if_eq (tgt := 42) hx hb dX_order_25 (by decide) (fun c2 => ?_) (fun c2 => ?_)
        · refine lv_iinc (v := (nI (i + 1))) (lv' := [(2, .int (nI (i + 1))), (0, .ref (a 0)), (1, .int q)]) hx hb dX_order_42 hl (k := 2) rfl (nI_add i 1) (by decide) rfl (fun ls hl => ?_)
          refine lv_goto (tgt := 6) hx hb dX_order_45 (by decide) ?_
          exact ih6 k8 (by omega) (i + 1) (by omega) ((fstF_n (fun h9 => by first | exact absurd h9.1 (by assumption) | exact absurd h9.2 (by assumption))).symm.trans hres) _ _ _ hG hS (lv_sub hl [1, 2, 0] rfl)
        · refine lv_aload_n hx hb dX_order_28 rfl (lv_at hl 0 rfl) ?_
          refine g_get hx hb hts inX hown hK hG 0 (by decide) hsX0 rfl 0 (by decide) lkX_10 rfl dX_order_29 ?_
          refine lv_iload_n hx hb dX_order_32 rfl (lv_at hl 2 rfl) ?_
          refine g_ViR (i := 1) (As := [.int (nI i)]) (rest := []) (kP_solidBefore hA ⟨hsP1, hsP2, hsP3, hsP4, hsP5, hsP6, hsP7, hsP8⟩ i (by omega) (by omega)) calP_solidBefore cvP_solidBefore mlX_116 hx hb hml hown hts hB hG hK hS (by decide) hsP1 rfl ⟨by decide, by decide⟩ rfl hl.1 rfl (Nat.le_of_ble_eq_true rfl) dX_order_33 ⟨by decide, by decide⟩ (fun H locs hG hS => ?_)
          refine lv_iload_n hx hb dX_order_36 rfl (lv_at hl 1 rfl) ?_
          refine lv_icmp_ne (tgt := 42) hx hb dX_order_37 (by decide) (fun c3 => ?_) (fun c3 => ?_)
          · refine lv_iinc (v := (nI (i + 1))) (lv' := [(2, .int (nI (i + 1))), (0, .ref (a 0)), (1, .int q)]) hx hb dX_order_42 hl (k := 2) rfl (nI_add i 1) (by decide) rfl (fun ls hl => ?_)
            refine lv_goto (tgt := 6) hx hb dX_order_45 (by decide) ?_
            exact ih6 k8 (by omega) (i + 1) (by omega) ((fstF_n (fun h9 => by first | exact absurd h9.1 (by assumption) | exact absurd h9.2 (by assumption))).symm.trans hres) _ _ _ hG hS (lv_sub hl [1, 2, 0] rfl)
          · refine lv_iload_n hx hb dX_order_40 rfl (lv_at hl 2 rfl) ?_
            exact g_iret hQ hx hb hr hlk hG hK hS (by decide) (by decide) ⟨by exact (fstF_y ⟨by assumption, by assumption⟩).symm.trans hres, rfl⟩ dX_order_41
  exact loop6 n 0 (by omega) rfl _ _ _ hG hS (lv_sub hl [1, 2, 0] rfl)

abbrev rmX_order_z : Room := { frames := 7, cells := 1, slots := 6, locals := 102 }
set_option maxRecDepth 100000 in
set_option maxHeartbeats 4000000 in
theorem kX_order_z {l : Launch} (hl9 : l.stackTraces = false) {D : va_G} {k : ClassId × ClassId × ClassId} {a : Nat → Nat} {B0 : Nat} {w : Nat → va_E} (hA : gA B0 a) {n : Nat} {up : Nat → Int64} {lo : Nat → Int64} {fa : Nat → Int32} {we : Nat → Int32} {ti : Nat → Int32} {ri : Nat → Int32} {jo : Nat → Int32} (hsX : sX k a w ) (hsP : sP k a w n up lo fa we ti ri jo) (q : Int32) (hq : q < 0) : xMet l yX_order cX_order 3 (some .int) rmX_order_z D k a B0 w [.ref (a 0), .int q] eIOB := by
  have hsX0 := hsX
  obtain ⟨hsP1, hsP2, hsP3, hsP4, hsP5, hsP6, hsP7, hsP8⟩ := hsP
  refine x_ofW (by decide) rfl (fun p e s m args below meth c Q hQ htab hx hb hr hlk hml hown hts hB hG hK hS hXS ls hl => ?_)
  have hl : lv_has ls 3 [(0, .ref (a 0)), (1, .int q)] := hl
  have hown : s.vm.findClass RX = some m.cls := hown
  refine lv_iload_n hx hb dX_order_0 rfl (lv_at hl 1 rfl) ?_
  exact x_SB (As := [.int q]) (rest := []) hQ htab hlk (kX_requireNotBelowZero_b hl9 hA q (by assumption)) calX_requireNotBelowZero cvX_requireNotBelowZero mlX_105 hx hb hml hown hts hB hG hK hS hXS ⟨by decide, by decide⟩ rfl hl.1 rfl (Nat.le_of_ble_eq_true rfl) dX_order_1 ⟨by decide, by decide⟩ (by decide) (by decide)

abbrev rmX_unfed : Room := { frames := 4, cells := 0, slots := 0, locals := 90 }
set_option maxRecDepth 100000 in
set_option maxHeartbeats 4000000 in
theorem kX_unfed {l : Launch} {D : va_G} {k : ClassId × ClassId × ClassId} {a : Nat → Nat} {B0 : Nat} {w : Nat → va_E} (hA : gA B0 a) {n : Nat} {up : Nat → Int64} {lo : Nat → Int64} {fa : Nat → Int32} {we : Nat → Int32} {ti : Nat → Int32} {ri : Nat → Int32} {jo : Nat → Int32} (hsX : sX k a w ) (hsP : sP k a w n up lo fa we ti ri jo) (q : Int32) (hq : ¬ q < 0) (hn : n ≤ 12) (hjo : ∀ z, z < 144 → narrow .boolean (.int (jo z)) = .int (jo z)) : Met l yX_unfed (tbw yX_unfed cX_unfed 4 (some .int)) rmX_unfed (gPc D k a B0 w [.ref (a 0), .int q]) (va_Qi (roP (unF (rFeed up lo ri jo n) q n 0 0) w) (gB D k a) (gF B0)) 0 0 (gF B0) := by
  have hsX0 := hsX
  obtain ⟨hsP1, hsP2, hsP3, hsP4, hsP5, hsP6, hsP7, hsP8⟩ := hsP
  refine g_ofW (by decide) rfl (fun p e s m args below meth c Q hQ hx hb hr hlk hml hown hts hB hG hK hS ls hl => ?_)
  have hl : lv_has ls 4 [(0, .ref (a 0)), (1, .int q)] := hl
  have hown : s.vm.findClass RX = some m.cls := hown
  refine lv_iload_n hx hb dX_unfed_0 rfl (lv_at hl 1 rfl) ?_
  refine g_SvR (As := [.int q]) (rest := []) (kX_requireNotBelowZero hA q (by assumption)) calX_requireNotBelowZero cvX_requireNotBelowZero mlX_105 hx hb hml hown hts hB hG hK hS ⟨by decide, by decide⟩ rfl hl.1 rfl (Nat.le_of_ble_eq_true rfl) dX_unfed_1 ⟨by decide, by decide⟩ (fun H locs hG hS => ?_)
  refine lv_iconst (v := 0) hx hb dX_unfed_4 (by decide) ?_
  refine lv_istore_n (lv' := [(2, .int 0), (0, .ref (a 0)), (1, .int q)]) hx hb dX_unfed_5 rfl hl (by decide) rfl (fun ls hl => ?_)
  refine lv_iconst (v := 0) hx hb dX_unfed_6 (by decide) ?_
  refine lv_istore_n (lv' := [(3, .int 0), (2, .int 0), (0, .ref (a 0)), (1, .int q)]) hx hb dX_unfed_7 rfl hl (by decide) rfl (fun ls hl => ?_)
  have loop8 : ∀ (k9 : Nat) (i : Nat) (b : Nat) (hi : i + k9 = n) (hres : unF (rFeed up lo ri jo n) q k9 i b = unF (rFeed up lo ri jo n) q n 0 0) (H : Heap) (locs : List Loc) (ls : Array Slot), gW D a w H → va_S (gF B0) s.heap H locs → lv_has ls 4 [(0, .ref (a 0)), (1, .int q), (2, .int (nI b)), (3, .int (nI i))] → W p l e rmX_unfed s m args below meth c H locs 0 0 Q (F0 m 8 ls []) := by
    intro k9
    induction k9 using Nat.strongRecOn with
    | _ k9 ih8 =>
      intro i b hi hres H locs ls hG hS hl
      refine lv_iload_n hx hb dX_unfed_8 rfl (lv_at hl 3 rfl) ?_
      refine lv_aload_n hx hb dX_unfed_9 rfl (lv_at hl 0 rfl) ?_
      refine g_get hx hb hts inX hown hK hG 0 (by decide) hsX0 rfl 0 (by decide) lkX_10 rfl dX_unfed_10 ?_
      refine g_ViR (i := 1) (As := []) (rest := [.int (nI i)]) (kP_count hA ⟨hsP1, hsP2, hsP3, hsP4, hsP5, hsP6, hsP7, hsP8⟩) calP_count cvP_count mlX_108 hx hb hml hown hts hB hG hK hS (by decide) hsP1 rfl ⟨by decide, by decide⟩ rfl hl.1 rfl (Nat.le_of_ble_eq_true rfl) dX_unfed_13 ⟨by decide, by decide⟩ (fun H locs hG hS => ?_)
      refine ln_icmp_ge (x := i) (y := n) (tgt := 44) hx hb dX_unfed_16 (by decide) (by omega) (by omega) (fun c1 => ?_) (fun c1 => ?_)
      · obtain rfl : k9 = 0 := by omega
        refine lv_iconst (v := (-1)) hx hb dX_unfed_44 (by decide) ?_
        exact g_iret hQ hx hb hr hlk hG hK hS (by decide) (by decide) ⟨by exact hres, rfl⟩ dX_unfed_45
      · obtain ⟨k8, rfl⟩ : ∃ z, k9 = z + 1 := ⟨k9 - 1, by omega⟩
        refine lv_aload_n hx hb dX_unfed_19 rfl (lv_at hl 0 rfl) ?_
        refine lv_iload_n hx hb dX_unfed_20 rfl (lv_at hl 3 rfl) ?_
        refine g_ViR (i := 0) (As := [.int (nI i)]) (rest := []) (kX_whatFeeds hA hsX0 ⟨hsP1, hsP2, hsP3, hsP4, hsP5, hsP6, hsP7, hsP8⟩ i (by omega) (by omega) hjo) calX_whatFeeds cvX_whatFeeds mlX_147 hx hb hml hown hts hB hG hK hS (by decide) hsX0 rfl ⟨by decide, by decide⟩ rfl hl.1 rfl (Nat.le_of_ble_eq_true rfl) dX_unfed_21 ⟨by decide, by decide⟩ (fun H locs hG hS => ?_)
        refine lv_iconst (v := (-1)) hx hb dX_unfed_24 (by decide) ?_
        refine lv_icmp_ne (tgt := 38) hx hb dX_unfed_25 (by decide) (fun c2 => ?_) (fun c2 => ?_)
        · refine lv_iinc (v := (nI (i + 1))) (lv' := [(3, .int (nI (i + 1))), (0, .ref (a 0)), (1, .int q), (2, .int (nI b))]) hx hb dX_unfed_38 hl (k := 3) rfl (nI_add i 1) (by decide) rfl (fun ls hl => ?_)
          refine lv_goto (tgt := 8) hx hb dX_unfed_41 (by decide) ?_
          exact ih8 k8 (by omega) (i + 1) b (by omega) (by first | exact (unF_n (by assumption)).symm.trans hres | exact (unF_s (by assumption) (by assumption)).symm.trans hres) _ _ _ hG hS (lv_sub hl [1, 2, 3, 0] rfl)
        · refine lv_iload_n hx hb dX_unfed_28 rfl (lv_at hl 2 rfl) ?_
          refine lv_iload_n hx hb dX_unfed_29 rfl (lv_at hl 1 rfl) ?_
          refine lv_icmp_ne (tgt := 35) hx hb dX_unfed_30 (by decide) (fun c3 => ?_) (fun c3 => ?_)
          · refine lv_iinc (v := (nI (b + 1))) (lv' := [(2, .int (nI (b + 1))), (0, .ref (a 0)), (1, .int q), (3, .int (nI i))]) hx hb dX_unfed_35 hl (k := 2) rfl (nI_add b 1) (by decide) rfl (fun ls hl => ?_)
            refine lv_iinc (v := (nI (i + 1))) (lv' := [(3, .int (nI (i + 1))), (2, .int (nI (b + 1))), (0, .ref (a 0)), (1, .int q)]) hx hb dX_unfed_38 hl (k := 3) rfl (nI_add i 1) (by decide) rfl (fun ls hl => ?_)
            refine lv_goto (tgt := 8) hx hb dX_unfed_41 (by decide) ?_
            exact ih8 k8 (by omega) (i + 1) (b + 1) (by omega) (by first | exact (unF_n (by assumption)).symm.trans hres | exact (unF_s (by assumption) (by assumption)).symm.trans hres) _ _ _ hG hS (lv_sub hl [2, 3, 1, 0] rfl)
          · refine lv_iload_n hx hb dX_unfed_33 rfl (lv_at hl 3 rfl) ?_
            exact g_iret hQ hx hb hr hlk hG hK hS (by decide) (by decide) ⟨by exact (unF_y (by assumption) (by assumption)).symm.trans hres, rfl⟩ dX_unfed_34
  exact loop8 n 0 0 (by omega) rfl _ _ _ hG hS (lv_sub hl [2, 3, 1, 0] rfl)

abbrev rmX_unfed_z : Room := { frames := 7, cells := 1, slots := 6, locals := 102 }
set_option maxRecDepth 100000 in
set_option maxHeartbeats 4000000 in
theorem kX_unfed_z {l : Launch} (hl9 : l.stackTraces = false) {D : va_G} {k : ClassId × ClassId × ClassId} {a : Nat → Nat} {B0 : Nat} {w : Nat → va_E} (hA : gA B0 a) {n : Nat} {up : Nat → Int64} {lo : Nat → Int64} {fa : Nat → Int32} {we : Nat → Int32} {ti : Nat → Int32} {ri : Nat → Int32} {jo : Nat → Int32} (hsX : sX k a w ) (hsP : sP k a w n up lo fa we ti ri jo) (q : Int32) (hq : q < 0) : xMet l yX_unfed cX_unfed 4 (some .int) rmX_unfed_z D k a B0 w [.ref (a 0), .int q] eIOB := by
  have hsX0 := hsX
  obtain ⟨hsP1, hsP2, hsP3, hsP4, hsP5, hsP6, hsP7, hsP8⟩ := hsP
  refine x_ofW (by decide) rfl (fun p e s m args below meth c Q hQ htab hx hb hr hlk hml hown hts hB hG hK hS hXS ls hl => ?_)
  have hl : lv_has ls 4 [(0, .ref (a 0)), (1, .int q)] := hl
  have hown : s.vm.findClass RX = some m.cls := hown
  refine lv_iload_n hx hb dX_unfed_0 rfl (lv_at hl 1 rfl) ?_
  exact x_SB (As := [.int q]) (rest := []) hQ htab hlk (kX_requireNotBelowZero_b hl9 hA q (by assumption)) calX_requireNotBelowZero cvX_requireNotBelowZero mlX_105 hx hb hml hown hts hB hG hK hS hXS ⟨by decide, by decide⟩ rfl hl.1 rfl (Nat.le_of_ble_eq_true rfl) dX_unfed_1 ⟨by decide, by decide⟩ (by decide) (by decide)

abbrev rmX_feeder : Room := { frames := 4, cells := 0, slots := 0, locals := 90 }
set_option maxRecDepth 100000 in
set_option maxHeartbeats 4000000 in
theorem kX_feeder {l : Launch} {D : va_G} {k : ClassId × ClassId × ClassId} {a : Nat → Nat} {B0 : Nat} {w : Nat → va_E} (hA : gA B0 a) {n : Nat} {up : Nat → Int64} {lo : Nat → Int64} {fa : Nat → Int32} {we : Nat → Int32} {ti : Nat → Int32} {ri : Nat → Int32} {jo : Nat → Int32} (hsX : sX k a w ) (hsP : sP k a w n up lo fa we ti ri jo) (j : Nat) (hj : j < n) (hn : n ≤ 12) (hjo : ∀ z, z < 144 → narrow .boolean (.int (jo z)) = .int (jo z)) : Met l yX_feeder (tbw yX_feeder cX_feeder 2 (some .int)) rmX_feeder (gPc D k a B0 w [.ref (a 0), .int (nI j)]) (va_Qi (roP (rFeed up lo ri jo n j) w) (gB D k a) (gF B0)) 0 0 (gF B0) := by
  have hsX0 := hsX
  obtain ⟨hsP1, hsP2, hsP3, hsP4, hsP5, hsP6, hsP7, hsP8⟩ := hsP
  refine g_ofW (by decide) rfl (fun p e s m args below meth c Q hQ hx hb hr hlk hml hown hts hB hG hK hS ls hl => ?_)
  have hl : lv_has ls 2 [(0, .ref (a 0)), (1, .int (nI j))] := hl
  have hown : s.vm.findClass RX = some m.cls := hown
  refine lv_aload_n hx hb dX_feeder_0 rfl (lv_at hl 0 rfl) ?_
  refine lv_iload_n hx hb dX_feeder_1 rfl (lv_at hl 1 rfl) ?_
  refine g_VvR (i := 0) (As := [.int (nI j)]) (rest := []) (kX_requirePart hA hsX0 ⟨hsP1, hsP2, hsP3, hsP4, hsP5, hsP6, hsP7, hsP8⟩ j (by omega) (by omega)) calX_requirePart cvX_requirePart mlX_52 hx hb hml hown hts hB hG hK hS (by decide) hsX0 rfl ⟨by decide, by decide⟩ rfl hl.1 rfl (Nat.le_of_ble_eq_true rfl) dX_feeder_2 ⟨by decide, by decide⟩ (fun H locs hG hS => ?_)
  refine lv_aload_n hx hb dX_feeder_5 rfl (lv_at hl 0 rfl) ?_
  refine lv_iload_n hx hb dX_feeder_6 rfl (lv_at hl 1 rfl) ?_
  refine g_ViR (i := 0) (As := [.int (nI j)]) (rest := []) (kX_whatFeeds hA hsX0 ⟨hsP1, hsP2, hsP3, hsP4, hsP5, hsP6, hsP7, hsP8⟩ j (by omega) (by omega) hjo) calX_whatFeeds cvX_whatFeeds mlX_147 hx hb hml hown hts hB hG hK hS (by decide) hsX0 rfl ⟨by decide, by decide⟩ rfl hl.1 rfl (Nat.le_of_ble_eq_true rfl) dX_feeder_7 ⟨by decide, by decide⟩ (fun H locs hG hS => ?_)
  exact g_iret hQ hx hb hr hlk hG hK hS (by decide) (by decide) ⟨by first | rfl | omega | (simp_all; done) | grind, rfl⟩ dX_feeder_10

abbrev rmX_feeder_p : Room := { frames := 7, cells := 1, slots := 6, locals := 103 }
set_option maxRecDepth 100000 in
set_option maxHeartbeats 4000000 in
theorem kX_feeder_p {l : Launch} (hl9 : l.stackTraces = false) {D : va_G} {k : ClassId × ClassId × ClassId} {a : Nat → Nat} {B0 : Nat} {w : Nat → va_E} (hA : gA B0 a) {n : Nat} {up : Nat → Int64} {lo : Nat → Int64} {fa : Nat → Int32} {we : Nat → Int32} {ti : Nat → Int32} {ri : Nat → Int32} {jo : Nat → Int32} (hsX : sX k a w ) (hsP : sP k a w n up lo fa we ti ri jo) (q : Int32) (hq : ¬ (¬ q < 0 ∧ ¬ nI n ≤ q)) : xMet l yX_feeder cX_feeder 2 (some .int) rmX_feeder_p D k a B0 w [.ref (a 0), .int q] eIOB := by
  have hsX0 := hsX
  obtain ⟨hsP1, hsP2, hsP3, hsP4, hsP5, hsP6, hsP7, hsP8⟩ := hsP
  refine x_ofW (by decide) rfl (fun p e s m args below meth c Q hQ htab hx hb hr hlk hml hown hts hB hG hK hS hXS ls hl => ?_)
  have hl : lv_has ls 2 [(0, .ref (a 0)), (1, .int q)] := hl
  have hown : s.vm.findClass RX = some m.cls := hown
  refine lv_aload_n hx hb dX_feeder_0 rfl (lv_at hl 0 rfl) ?_
  refine lv_iload_n hx hb dX_feeder_1 rfl (lv_at hl 1 rfl) ?_
  exact x_VB (i := 0) (As := [.int q]) (rest := []) hQ htab hlk (kX_requirePart_b hl9 hA hsX0 ⟨hsP1, hsP2, hsP3, hsP4, hsP5, hsP6, hsP7, hsP8⟩ q (by assumption)) calX_requirePart cvX_requirePart mlX_52 hx hb hml hown hts hB hG hK hS hXS (by decide) hsX0 rfl ⟨by decide, by decide⟩ rfl hl.1 rfl (Nat.le_of_ble_eq_true rfl) dX_feeder_2 ⟨by decide, by decide⟩ (by decide) (by decide)

abbrev rmX_riserRow : Room := { frames := 1, cells := 0, slots := 0, locals := 22 }
set_option maxRecDepth 100000 in
set_option maxHeartbeats 4000000 in
theorem kX_riserRow {l : Launch} {D : va_G} {k : ClassId × ClassId × ClassId} {a : Nat → Nat} {B0 : Nat} {w : Nat → va_E} (hA : gA B0 a) {nr : Nat} {ru : Nat → Int64} {rl : Nat → Int64} (hsX : sX k a w ) (hsR : sR k a w nr ru rl) (x : Int32) (y : Int32) (hn : nr < 8) (h1 : szR x) (h2 : szR y) : Met l yX_riserRow (tbw yX_riserRow cX_riserRow 3 (some .int)) rmX_riserRow (gPc D k a B0 w [.ref (a 0), .int x, .int y]) (va_Qi (fun rr9 w1 => rr9 = (nI (nr + 1)) ∧ (sR k a w1 (nr + 1) (vp_updL ru nr (x.toInt64 * y.toInt64)) (vp_updL rl nr (4 * y.toInt64 + x.toInt64))) ∧ ∀ z, z < 9 ∨ 11 < z → w1 z = w z) (gB D k a) (gF B0)) 0 0 (gF B0) := by
  have hsX0 := hsX
  obtain ⟨hsR9, hsR10, hsR11⟩ := hsR
  refine g_ofW (by decide) rfl (fun p e s m args below meth c Q hQ hx hb hr hlk hml hown hts hB hG hK hS ls hl => ?_)
  have hl : lv_has ls 3 [(0, .ref (a 0)), (1, .int x), (2, .int y)] := hl
  have hown : s.vm.findClass RX = some m.cls := hown
  have hfr0 : ∀ z, z < 9 ∨ 11 < z → w z = w z := fun _ _ => rfl
  refine lv_aload_n hx hb dX_riserRow_0 rfl (lv_at hl 0 rfl) ?_
  refine g_get hx hb hts inX hown hK hG 0 (by decide) hsX0 rfl 1 (by decide) lkX_19 rfl dX_riserRow_1 ?_
  refine g_ViR (i := 9) (As := []) (rest := []) (kR_isFull hA ⟨hsR9, hsR10, hsR11⟩ (by omega)) calR_isFull cvR_isFull mlX_120 hx hb hml hown hts hB hG hK hS (by decide) hsR9 rfl ⟨by decide, by decide⟩ rfl hl.1 rfl (Nat.le_of_ble_eq_true rfl) dX_riserRow_4 ⟨by decide, by decide⟩ (fun H locs hG hS => ?_)
  refine lb_if_eq (tgt := 20) hx hb dX_riserRow_7 (by decide) (fun c1 => ?_) (fun c1 => ?_)
  · refine lv_iload_n hx hb dX_riserRow_20 rfl (lv_at hl 1 rfl) ?_
    refine g_SvR (As := [.int x]) (rest := []) (kX_requireSize hA x (by assumption)) calX_requireSize cvX_requireSize mlX_40 hx hb hml hown hts hB hG hK hS ⟨by decide, by decide⟩ rfl hl.1 rfl (Nat.le_of_ble_eq_true rfl) dX_riserRow_21 ⟨by decide, by decide⟩ (fun H locs hG hS => ?_)
    refine lv_iload_n hx hb dX_riserRow_24 rfl (lv_at hl 2 rfl) ?_
    refine g_SvR (As := [.int y]) (rest := []) (kX_requireSize hA y (by assumption)) calX_requireSize cvX_requireSize mlX_40 hx hb hml hown hts hB hG hK hS ⟨by decide, by decide⟩ rfl hl.1 rfl (Nat.le_of_ble_eq_true rfl) dX_riserRow_25 ⟨by decide, by decide⟩ (fun H locs hG hS => ?_)
    refine lv_aload_n hx hb dX_riserRow_28 rfl (lv_at hl 0 rfl) ?_
    refine g_get hx hb hts inX hown hK hG 0 (by decide) hsX0 rfl 1 (by decide) lkX_19 rfl dX_riserRow_29 ?_
    refine lv_iload_n hx hb dX_riserRow_32 rfl (lv_at hl 1 rfl) ?_
    refine lv_iload_n hx hb dX_riserRow_33 rfl (lv_at hl 2 rfl) ?_
    refine g_Vi (i := 9) (As := [.int x, .int y]) (rest := []) (kR_addRow hA ⟨hsR9, hsR10, hsR11⟩ x y (by omega)) calR_addRow cvR_addRow mlX_126 hx hb hml hown hts hB hG hK hS (by decide) hsR9 rfl ⟨by decide, by decide⟩ rfl hl.1 rfl (Nat.le_of_ble_eq_true rfl) dX_riserRow_34 ⟨by decide, by decide⟩ (fun r2 w3 H locs hp4 hG hS => ?_)
    obtain ⟨er8, ⟨h5, h6, h7⟩, hfr9⟩ := hp4
    have h10 : w3 0 = .inr (0, [.ref (a 1), .ref (a 9), .ref (a 12), .ref (a 15)]) := (hfr9 0 (by omega)).trans hsX0
    have hfr11 : ∀ z, z < 9 ∨ 11 < z → w3 z = w z := fun z hz => (hfr9 z (by omega)).trans (hfr0 z hz)
    rw [er8]
    exact g_iret hQ hx hb hr hlk hG hK hS (by decide) (by decide) ⟨by first | rfl | omega | (simp_all; done) | grind, ⟨h5, h6, h7⟩, hfr11⟩ dX_riserRow_37
  · exfalso
    first | omega | contradiction | (simp_all; done) | grind

abbrev rmX_riserRow_f : Room := { frames := 7, cells := 1, slots := 6, locals := 102 }
set_option maxRecDepth 100000 in
set_option maxHeartbeats 4000000 in
theorem kX_riserRow_f {l : Launch} (hl9 : l.stackTraces = false) {D : va_G} {k : ClassId × ClassId × ClassId} {a : Nat → Nat} {B0 : Nat} {w : Nat → va_E} (hA : gA B0 a) {nr : Nat} {ru : Nat → Int64} {rl : Nat → Int64} (hsX : sX k a w ) (hsR : sR k a w nr ru rl) (x : Int32) (y : Int32) (hn : nr = 8) : xMet l yX_riserRow cX_riserRow 3 (some .int) rmX_riserRow_f D k a B0 w [.ref (a 0), .int x, .int y] eISE := by
  have hsX0 := hsX
  obtain ⟨hsR9, hsR10, hsR11⟩ := hsR
  refine x_ofW (by decide) rfl (fun p e s m args below meth c Q hQ htab hx hb hr hlk hml hown hts hB hG hK hS hXS ls hl => ?_)
  have hl : lv_has ls 3 [(0, .ref (a 0)), (1, .int x), (2, .int y)] := hl
  have hown : s.vm.findClass RX = some m.cls := hown
  refine lv_aload_n hx hb dX_riserRow_0 rfl (lv_at hl 0 rfl) ?_
  refine g_get hx hb hts inX hown hK hG 0 (by decide) hsX0 rfl 1 (by decide) lkX_19 rfl dX_riserRow_1 ?_
  refine g_ViR (i := 9) (As := []) (rest := []) (kR_isFull hA ⟨hsR9, hsR10, hsR11⟩ (by omega)) calR_isFull cvR_isFull mlX_120 hx hb hml hown hts hB hG hK hS (by decide) hsR9 rfl ⟨by decide, by decide⟩ rfl hl.1 rfl (Nat.le_of_ble_eq_true rfl) dX_riserRow_4 ⟨by decide, by decide⟩ (fun H locs hG hS => ?_)
  refine lb_if_eq (tgt := 20) hx hb dX_riserRow_7 (by decide) (fun c1 => ?_) (fun c1 => ?_)
  · exact absurd (by omega) c1
  · exact x_throw hQ hl9 xok_eISE (show ((124 : Nat), "there are 8 riser rows") ∈ xStr by decide +kernel) hx hb hml hown hts hG hK hS hXS hlk htab hl.1 dX_riserRow_10 dX_riserRow_13 dX_riserRow_14 dX_riserRow_16 dX_riserRow_19 (by decide) (by decide) (by decide) (by decide) (by decide) (by decide)

abbrev rmX_riserRow_z : Room := { frames := 7, cells := 1, slots := 6, locals := 102 }
set_option maxRecDepth 100000 in
set_option maxHeartbeats 4000000 in
theorem kX_riserRow_z {l : Launch} (hl9 : l.stackTraces = false) {D : va_G} {k : ClassId × ClassId × ClassId} {a : Nat → Nat} {B0 : Nat} {w : Nat → va_E} (hA : gA B0 a) {nr : Nat} {ru : Nat → Int64} {rl : Nat → Int64} (hsX : sX k a w ) (hsR : sR k a w nr ru rl) (x : Int32) (y : Int32) (hn : nr < 8) (hz : ¬ (szR x ∧ szR y)) : xMet l yX_riserRow cX_riserRow 3 (some .int) rmX_riserRow_z D k a B0 w [.ref (a 0), .int x, .int y] eIAE := by
  have hsX0 := hsX
  obtain ⟨hsR9, hsR10, hsR11⟩ := hsR
  refine x_ofW (by decide) rfl (fun p e s m args below meth c Q hQ htab hx hb hr hlk hml hown hts hB hG hK hS hXS ls hl => ?_)
  have hl : lv_has ls 3 [(0, .ref (a 0)), (1, .int x), (2, .int y)] := hl
  have hown : s.vm.findClass RX = some m.cls := hown
  refine lv_aload_n hx hb dX_riserRow_0 rfl (lv_at hl 0 rfl) ?_
  refine g_get hx hb hts inX hown hK hG 0 (by decide) hsX0 rfl 1 (by decide) lkX_19 rfl dX_riserRow_1 ?_
  refine g_ViR (i := 9) (As := []) (rest := []) (kR_isFull hA ⟨hsR9, hsR10, hsR11⟩ (by omega)) calR_isFull cvR_isFull mlX_120 hx hb hml hown hts hB hG hK hS (by decide) hsR9 rfl ⟨by decide, by decide⟩ rfl hl.1 rfl (Nat.le_of_ble_eq_true rfl) dX_riserRow_4 ⟨by decide, by decide⟩ (fun H locs hG hS => ?_)
  refine lb_if_eq (tgt := 20) hx hb dX_riserRow_7 (by decide) (fun c1 => ?_) (fun c1 => ?_)
  · refine lv_iload_n hx hb dX_riserRow_20 rfl (lv_at hl 1 rfl) ?_
    by_cases hs2 : szR x
    · refine g_SvR (As := [.int x]) (rest := []) (kX_requireSize hA x (by assumption)) calX_requireSize cvX_requireSize mlX_40 hx hb hml hown hts hB hG hK hS ⟨by decide, by decide⟩ rfl hl.1 rfl (Nat.le_of_ble_eq_true rfl) dX_riserRow_21 ⟨by decide, by decide⟩ (fun H locs hG hS => ?_)
      refine lv_iload_n hx hb dX_riserRow_24 rfl (lv_at hl 2 rfl) ?_
      by_cases hs3 : szR y
      · refine g_SvR (As := [.int y]) (rest := []) (kX_requireSize hA y (by assumption)) calX_requireSize cvX_requireSize mlX_40 hx hb hml hown hts hB hG hK hS ⟨by decide, by decide⟩ rfl hl.1 rfl (Nat.le_of_ble_eq_true rfl) dX_riserRow_25 ⟨by decide, by decide⟩ (fun H locs hG hS => ?_)
        exact absurd ⟨by assumption, by assumption⟩ hz
      · exact x_SB (As := [.int y]) (rest := []) hQ htab hlk (kX_requireSize_b hl9 hA y (by assumption)) calX_requireSize cvX_requireSize mlX_40 hx hb hml hown hts hB hG hK hS hXS ⟨by decide, by decide⟩ rfl hl.1 rfl (Nat.le_of_ble_eq_true rfl) dX_riserRow_25 ⟨by decide, by decide⟩ (by decide) (by decide)
    · exact x_SB (As := [.int x]) (rest := []) hQ htab hlk (kX_requireSize_b hl9 hA x (by assumption)) calX_requireSize cvX_requireSize mlX_40 hx hb hml hown hts hB hG hK hS hXS ⟨by decide, by decide⟩ rfl hl.1 rfl (Nat.le_of_ble_eq_true rfl) dX_riserRow_21 ⟨by decide, by decide⟩ (by decide) (by decide)
  · exfalso
    first | omega | contradiction | (simp_all; done) | grind

abbrev rmX_riser : Room := { frames := 2, cells := 0, slots := 0, locals := 42 }
set_option maxRecDepth 100000 in
set_option maxHeartbeats 4000000 in
theorem kX_riser {l : Launch} {D : va_G} {k : ClassId × ClassId × ClassId} {a : Nat → Nat} {B0 : Nat} {w : Nat → va_E} (hA : gA B0 a) {n : Nat} {up : Nat → Int64} {lo : Nat → Int64} {fa : Nat → Int32} {we : Nat → Int32} {ti : Nat → Int32} {ri : Nat → Int32} {jo : Nat → Int32} {nr : Nat} {ru : Nat → Int64} {rl : Nat → Int64} (hsX : sX k a w ) (hsP : sP k a w n up lo fa we ti ri jo) (hsR : sR k a w nr ru rl) (j : Nat) (hj : j < n) (hn : n ≤ 12) (hr8 : nr ≤ 8) (ht : 0 < lo j) (hf : ¬ fstF (rFitP ru rl (up j) (lo j)) nr 0 = -1) : Met l yX_riser (tbw yX_riser cX_riser 3 (some .int)) rmX_riser (gPc D k a B0 w [.ref (a 0), .int (nI j)]) (va_Qi (fun rr9 w1 => rr9 = (fstF (rFitP ru rl (up j) (lo j)) nr 0) ∧ (sP k a w1 n up lo fa we ti (upd ri j (fstF (rFitP ru rl (up j) (lo j)) nr 0)) jo) ∧ ∀ z, z < 1 ∨ 8 < z → w1 z = w z) (gB D k a) (gF B0)) 0 0 (gF B0) := by
  have hsX0 := hsX
  obtain ⟨hsP1, hsP2, hsP3, hsP4, hsP5, hsP6, hsP7, hsP8⟩ := hsP
  obtain ⟨hsR9, hsR10, hsR11⟩ := hsR
  refine g_ofW (by decide) rfl (fun p e s m args below meth c Q hQ hx hb hr hlk hml hown hts hB hG hK hS ls hl => ?_)
  have hl : lv_has ls 3 [(0, .ref (a 0)), (1, .int (nI j))] := hl
  have hown : s.vm.findClass RX = some m.cls := hown
  have hfr0 : ∀ z, z < 1 ∨ 8 < z → w z = w z := fun _ _ => rfl
  refine lv_aload_n hx hb dX_riser_0 rfl (lv_at hl 0 rfl) ?_
  refine lv_iload_n hx hb dX_riser_1 rfl (lv_at hl 1 rfl) ?_
  refine g_VvR (i := 0) (As := [.int (nI j)]) (rest := []) (kX_requirePart hA hsX0 ⟨hsP1, hsP2, hsP3, hsP4, hsP5, hsP6, hsP7, hsP8⟩ j (by omega) (by omega)) calX_requirePart cvX_requirePart mlX_52 hx hb hml hown hts hB hG hK hS (by decide) hsX0 rfl ⟨by decide, by decide⟩ rfl hl.1 rfl (Nat.le_of_ble_eq_true rfl) dX_riser_2 ⟨by decide, by decide⟩ (fun H locs hG hS => ?_)
  refine lv_aload_n hx hb dX_riser_5 rfl (lv_at hl 0 rfl) ?_
  refine lv_iload_n hx hb dX_riser_6 rfl (lv_at hl 1 rfl) ?_
  refine g_VvR (i := 0) (As := [.int (nI j)]) (rest := []) (kX_requireTold hA hsX0 ⟨hsP1, hsP2, hsP3, hsP4, hsP5, hsP6, hsP7, hsP8⟩ j (by omega) (by assumption)) calX_requireTold cvX_requireTold mlX_77 hx hb hml hown hts hB hG hK hS (by decide) hsX0 rfl ⟨by decide, by decide⟩ rfl hl.1 rfl (Nat.le_of_ble_eq_true rfl) dX_riser_7 ⟨by decide, by decide⟩ (fun H locs hG hS => ?_)
  refine lv_aload_n hx hb dX_riser_10 rfl (lv_at hl 0 rfl) ?_
  refine g_get hx hb hts inX hown hK hG 0 (by decide) hsX0 rfl 1 (by decide) lkX_19 rfl dX_riser_11 ?_
  refine lv_aload_n hx hb dX_riser_14 rfl (lv_at hl 0 rfl) ?_
  refine g_get hx hb hts inX hown hK hG 0 (by decide) hsX0 rfl 0 (by decide) lkX_10 rfl dX_riser_15 ?_
  refine lv_iload_n hx hb dX_riser_18 rfl (lv_at hl 1 rfl) ?_
  refine g_VlR (i := 1) (As := [.int (nI j)]) (rest := [.ref (a 9)]) (kP_upper hA ⟨hsP1, hsP2, hsP3, hsP4, hsP5, hsP6, hsP7, hsP8⟩ j (by omega)) calP_upper cvP_upper mlX_80 hx hb hml hown hts hB hG hK hS (by decide) hsP1 rfl ⟨by decide, by decide⟩ rfl hl.1 rfl (Nat.le_of_ble_eq_true rfl) dX_riser_19 ⟨by decide, by decide⟩ (fun H locs hG hS => ?_)
  refine lv_aload_n hx hb dX_riser_22 rfl (lv_at hl 0 rfl) ?_
  refine g_get hx hb hts inX hown hK hG 0 (by decide) hsX0 rfl 0 (by decide) lkX_10 rfl dX_riser_23 ?_
  refine lv_iload_n hx hb dX_riser_26 rfl (lv_at hl 1 rfl) ?_
  refine g_VlR (i := 1) (As := [.int (nI j)]) (rest := [.long (up j), .ref (a 9)]) (kP_lower hA ⟨hsP1, hsP2, hsP3, hsP4, hsP5, hsP6, hsP7, hsP8⟩ j (by omega)) calP_lower cvP_lower mlX_84 hx hb hml hown hts hB hG hK hS (by decide) hsP1 rfl ⟨by decide, by decide⟩ rfl hl.1 rfl (Nat.le_of_ble_eq_true rfl) dX_riser_27 ⟨by decide, by decide⟩ (fun H locs hG hS => ?_)
  refine g_ViR (i := 9) (As := [.long (up j), .long (lo j)]) (rest := []) (kR_firstFor hA ⟨hsR9, hsR10, hsR11⟩ (up j) (lo j) (by omega)) calR_firstFor cvR_firstFor mlX_129 hx hb hml hown hts hB hG hK hS (by decide) hsR9 rfl ⟨by decide, by decide⟩ rfl hl.1 rfl (Nat.le_of_ble_eq_true rfl) dX_riser_30 ⟨by decide, by decide⟩ (fun H locs hG hS => ?_)
  refine lv_istore_n (lv' := [(2, .int (fstF (rFitP ru rl (up j) (lo j)) nr 0)), (0, .ref (a 0)), (1, .int (nI j))]) hx hb dX_riser_33 rfl hl (by decide) rfl (fun ls hl => ?_)
  refine lv_iload_n hx hb dX_riser_34 rfl (lv_at hl 0 rfl) ?_
  refine lv_iconst (v := (-1)) hx hb dX_riser_35 (by decide) ?_
  refine lv_icmp_ne (tgt := 49) hx hb dX_riser_36 (by decide) (fun c1 => ?_) (fun c1 => ?_)
  · refine lv_aload_n hx hb dX_riser_49 rfl (lv_at hl 1 rfl) ?_
    refine g_get hx hb hts inX hown hK hG 0 (by decide) hsX0 rfl 0 (by decide) lkX_10 rfl dX_riser_50 ?_
    refine lv_iload_n hx hb dX_riser_53 rfl (lv_at hl 2 rfl) ?_
    refine lv_iload_n hx hb dX_riser_54 rfl (lv_at hl 0 rfl) ?_
    refine g_Vv (i := 1) (As := [.int (nI j), .int (fstF (rFitP ru rl (up j) (lo j)) nr 0)]) (rest := []) (kP_setRiser hA ⟨hsP1, hsP2, hsP3, hsP4, hsP5, hsP6, hsP7, hsP8⟩ j (fstF (rFitP ru rl (up j) (lo j)) nr 0) (by omega)) calP_setRiser cvP_setRiser mlX_138 hx hb hml hown hts hB hG hK hS (by decide) hsP1 rfl ⟨by decide, by decide⟩ rfl hl.1 rfl (Nat.le_of_ble_eq_true rfl) dX_riser_55 ⟨by decide, by decide⟩ (fun w3 H locs hp4 hG hS => ?_)
    obtain ⟨⟨h5, h6, h7, h8, h9, h10, h11, h12⟩, hfr14⟩ := hp4
    have h15 : w3 0 = .inr (0, [.ref (a 1), .ref (a 9), .ref (a 12), .ref (a 15)]) := (hfr14 0 (by omega)).trans hsX0
    have h16 : w3 9 = .inr (2, [.ref (a 10), .ref (a 11), .int (nI nr)]) := (hfr14 9 (by omega)).trans hsR9
    have h17 : w3 10 = .inl (k.2.1, 8, .inr (.inl ru)) := (hfr14 10 (by omega)).trans hsR10
    have h18 : w3 11 = .inl (k.2.1, 8, .inr (.inl rl)) := (hfr14 11 (by omega)).trans hsR11
    have hfr19 : ∀ z, z < 1 ∨ 8 < z → w3 z = w z := fun z hz => (hfr14 z (by omega)).trans (hfr0 z hz)
    refine lv_iload_n hx hb dX_riser_58 rfl (lv_at hl 0 rfl) ?_
    exact g_iret hQ hx hb hr hlk hG hK hS (by decide) (by decide) ⟨by first | rfl | omega | (simp_all; done) | grind, ⟨h5, h6, h7, h8, h9, h10, h11, h12⟩, hfr19⟩ dX_riser_59
  · exfalso
    first | omega | contradiction | (simp_all; done) | grind

abbrev rmX_riser_p : Room := { frames := 7, cells := 1, slots := 6, locals := 103 }
set_option maxRecDepth 100000 in
set_option maxHeartbeats 4000000 in
theorem kX_riser_p {l : Launch} (hl9 : l.stackTraces = false) {D : va_G} {k : ClassId × ClassId × ClassId} {a : Nat → Nat} {B0 : Nat} {w : Nat → va_E} (hA : gA B0 a) {n : Nat} {up : Nat → Int64} {lo : Nat → Int64} {fa : Nat → Int32} {we : Nat → Int32} {ti : Nat → Int32} {ri : Nat → Int32} {jo : Nat → Int32} {nr : Nat} {ru : Nat → Int64} {rl : Nat → Int64} (hsX : sX k a w ) (hsP : sP k a w n up lo fa we ti ri jo) (hsR : sR k a w nr ru rl) (q : Int32) (hq : ¬ (¬ q < 0 ∧ ¬ nI n ≤ q)) : xMet l yX_riser cX_riser 3 (some .int) rmX_riser_p D k a B0 w [.ref (a 0), .int q] eIOB := by
  have hsX0 := hsX
  obtain ⟨hsP1, hsP2, hsP3, hsP4, hsP5, hsP6, hsP7, hsP8⟩ := hsP
  obtain ⟨hsR9, hsR10, hsR11⟩ := hsR
  refine x_ofW (by decide) rfl (fun p e s m args below meth c Q hQ htab hx hb hr hlk hml hown hts hB hG hK hS hXS ls hl => ?_)
  have hl : lv_has ls 3 [(0, .ref (a 0)), (1, .int q)] := hl
  have hown : s.vm.findClass RX = some m.cls := hown
  refine lv_aload_n hx hb dX_riser_0 rfl (lv_at hl 0 rfl) ?_
  refine lv_iload_n hx hb dX_riser_1 rfl (lv_at hl 1 rfl) ?_
  exact x_VB (i := 0) (As := [.int q]) (rest := []) hQ htab hlk (kX_requirePart_b hl9 hA hsX0 ⟨hsP1, hsP2, hsP3, hsP4, hsP5, hsP6, hsP7, hsP8⟩ q (by assumption)) calX_requirePart cvX_requirePart mlX_52 hx hb hml hown hts hB hG hK hS hXS (by decide) hsX0 rfl ⟨by decide, by decide⟩ rfl hl.1 rfl (Nat.le_of_ble_eq_true rfl) dX_riser_2 ⟨by decide, by decide⟩ (by decide) (by decide)

abbrev rmX_riser_t : Room := { frames := 7, cells := 1, slots := 6, locals := 103 }
set_option maxRecDepth 100000 in
set_option maxHeartbeats 4000000 in
theorem kX_riser_t {l : Launch} (hl9 : l.stackTraces = false) {D : va_G} {k : ClassId × ClassId × ClassId} {a : Nat → Nat} {B0 : Nat} {w : Nat → va_E} (hA : gA B0 a) {n : Nat} {up : Nat → Int64} {lo : Nat → Int64} {fa : Nat → Int32} {we : Nat → Int32} {ti : Nat → Int32} {ri : Nat → Int32} {jo : Nat → Int32} {nr : Nat} {ru : Nat → Int64} {rl : Nat → Int64} (hsX : sX k a w ) (hsP : sP k a w n up lo fa we ti ri jo) (hsR : sR k a w nr ru rl) (j : Nat) (hj : j < n) (hn : n ≤ 12) (ht : ¬ 0 < lo j) : xMet l yX_riser cX_riser 3 (some .int) rmX_riser_t D k a B0 w [.ref (a 0), .int (nI j)] eUOE := by
  have hsX0 := hsX
  obtain ⟨hsP1, hsP2, hsP3, hsP4, hsP5, hsP6, hsP7, hsP8⟩ := hsP
  obtain ⟨hsR9, hsR10, hsR11⟩ := hsR
  refine x_ofW (by decide) rfl (fun p e s m args below meth c Q hQ htab hx hb hr hlk hml hown hts hB hG hK hS hXS ls hl => ?_)
  have hl : lv_has ls 3 [(0, .ref (a 0)), (1, .int (nI j))] := hl
  have hown : s.vm.findClass RX = some m.cls := hown
  refine lv_aload_n hx hb dX_riser_0 rfl (lv_at hl 0 rfl) ?_
  refine lv_iload_n hx hb dX_riser_1 rfl (lv_at hl 1 rfl) ?_
  refine g_VvR (i := 0) (As := [.int (nI j)]) (rest := []) (kX_requirePart hA hsX0 ⟨hsP1, hsP2, hsP3, hsP4, hsP5, hsP6, hsP7, hsP8⟩ j (by omega) (by omega)) calX_requirePart cvX_requirePart mlX_52 hx hb hml hown hts hB hG hK hS (by decide) hsX0 rfl ⟨by decide, by decide⟩ rfl hl.1 rfl (Nat.le_of_ble_eq_true rfl) dX_riser_2 ⟨by decide, by decide⟩ (fun H locs hG hS => ?_)
  refine lv_aload_n hx hb dX_riser_5 rfl (lv_at hl 0 rfl) ?_
  refine lv_iload_n hx hb dX_riser_6 rfl (lv_at hl 1 rfl) ?_
  exact x_VB (i := 0) (As := [.int (nI j)]) (rest := []) hQ htab hlk (kX_requireTold_b hl9 hA hsX0 ⟨hsP1, hsP2, hsP3, hsP4, hsP5, hsP6, hsP7, hsP8⟩ j (by omega) (by assumption)) calX_requireTold cvX_requireTold mlX_77 hx hb hml hown hts hB hG hK hS hXS (by decide) hsX0 rfl ⟨by decide, by decide⟩ rfl hl.1 rfl (Nat.le_of_ble_eq_true rfl) dX_riser_7 ⟨by decide, by decide⟩ (by decide) (by decide)

abbrev rmX_riser_r : Room := { frames := 7, cells := 1, slots := 6, locals := 103 }
set_option maxRecDepth 100000 in
set_option maxHeartbeats 4000000 in
theorem kX_riser_r {l : Launch} (hl9 : l.stackTraces = false) {D : va_G} {k : ClassId × ClassId × ClassId} {a : Nat → Nat} {B0 : Nat} {w : Nat → va_E} (hA : gA B0 a) {n : Nat} {up : Nat → Int64} {lo : Nat → Int64} {fa : Nat → Int32} {we : Nat → Int32} {ti : Nat → Int32} {ri : Nat → Int32} {jo : Nat → Int32} {nr : Nat} {ru : Nat → Int64} {rl : Nat → Int64} (hsX : sX k a w ) (hsP : sP k a w n up lo fa we ti ri jo) (hsR : sR k a w nr ru rl) (j : Nat) (hj : j < n) (hn : n ≤ 12) (hr8 : nr ≤ 8) (ht : 0 < lo j) (hf : fstF (rFitP ru rl (up j) (lo j)) nr 0 = -1) : xMet l yX_riser cX_riser 3 (some .int) rmX_riser_r D k a B0 w [.ref (a 0), .int (nI j)] eUOE := by
  have hsX0 := hsX
  obtain ⟨hsP1, hsP2, hsP3, hsP4, hsP5, hsP6, hsP7, hsP8⟩ := hsP
  obtain ⟨hsR9, hsR10, hsR11⟩ := hsR
  refine x_ofW (by decide) rfl (fun p e s m args below meth c Q hQ htab hx hb hr hlk hml hown hts hB hG hK hS hXS ls hl => ?_)
  have hl : lv_has ls 3 [(0, .ref (a 0)), (1, .int (nI j))] := hl
  have hown : s.vm.findClass RX = some m.cls := hown
  refine lv_aload_n hx hb dX_riser_0 rfl (lv_at hl 0 rfl) ?_
  refine lv_iload_n hx hb dX_riser_1 rfl (lv_at hl 1 rfl) ?_
  refine g_VvR (i := 0) (As := [.int (nI j)]) (rest := []) (kX_requirePart hA hsX0 ⟨hsP1, hsP2, hsP3, hsP4, hsP5, hsP6, hsP7, hsP8⟩ j (by omega) (by omega)) calX_requirePart cvX_requirePart mlX_52 hx hb hml hown hts hB hG hK hS (by decide) hsX0 rfl ⟨by decide, by decide⟩ rfl hl.1 rfl (Nat.le_of_ble_eq_true rfl) dX_riser_2 ⟨by decide, by decide⟩ (fun H locs hG hS => ?_)
  refine lv_aload_n hx hb dX_riser_5 rfl (lv_at hl 0 rfl) ?_
  refine lv_iload_n hx hb dX_riser_6 rfl (lv_at hl 1 rfl) ?_
  refine g_VvR (i := 0) (As := [.int (nI j)]) (rest := []) (kX_requireTold hA hsX0 ⟨hsP1, hsP2, hsP3, hsP4, hsP5, hsP6, hsP7, hsP8⟩ j (by omega) (by assumption)) calX_requireTold cvX_requireTold mlX_77 hx hb hml hown hts hB hG hK hS (by decide) hsX0 rfl ⟨by decide, by decide⟩ rfl hl.1 rfl (Nat.le_of_ble_eq_true rfl) dX_riser_7 ⟨by decide, by decide⟩ (fun H locs hG hS => ?_)
  refine lv_aload_n hx hb dX_riser_10 rfl (lv_at hl 0 rfl) ?_
  refine g_get hx hb hts inX hown hK hG 0 (by decide) hsX0 rfl 1 (by decide) lkX_19 rfl dX_riser_11 ?_
  refine lv_aload_n hx hb dX_riser_14 rfl (lv_at hl 0 rfl) ?_
  refine g_get hx hb hts inX hown hK hG 0 (by decide) hsX0 rfl 0 (by decide) lkX_10 rfl dX_riser_15 ?_
  refine lv_iload_n hx hb dX_riser_18 rfl (lv_at hl 1 rfl) ?_
  refine g_VlR (i := 1) (As := [.int (nI j)]) (rest := [.ref (a 9)]) (kP_upper hA ⟨hsP1, hsP2, hsP3, hsP4, hsP5, hsP6, hsP7, hsP8⟩ j (by omega)) calP_upper cvP_upper mlX_80 hx hb hml hown hts hB hG hK hS (by decide) hsP1 rfl ⟨by decide, by decide⟩ rfl hl.1 rfl (Nat.le_of_ble_eq_true rfl) dX_riser_19 ⟨by decide, by decide⟩ (fun H locs hG hS => ?_)
  refine lv_aload_n hx hb dX_riser_22 rfl (lv_at hl 0 rfl) ?_
  refine g_get hx hb hts inX hown hK hG 0 (by decide) hsX0 rfl 0 (by decide) lkX_10 rfl dX_riser_23 ?_
  refine lv_iload_n hx hb dX_riser_26 rfl (lv_at hl 1 rfl) ?_
  refine g_VlR (i := 1) (As := [.int (nI j)]) (rest := [.long (up j), .ref (a 9)]) (kP_lower hA ⟨hsP1, hsP2, hsP3, hsP4, hsP5, hsP6, hsP7, hsP8⟩ j (by omega)) calP_lower cvP_lower mlX_84 hx hb hml hown hts hB hG hK hS (by decide) hsP1 rfl ⟨by decide, by decide⟩ rfl hl.1 rfl (Nat.le_of_ble_eq_true rfl) dX_riser_27 ⟨by decide, by decide⟩ (fun H locs hG hS => ?_)
  refine g_ViR (i := 9) (As := [.long (up j), .long (lo j)]) (rest := []) (kR_firstFor hA ⟨hsR9, hsR10, hsR11⟩ (up j) (lo j) (by omega)) calR_firstFor cvR_firstFor mlX_129 hx hb hml hown hts hB hG hK hS (by decide) hsR9 rfl ⟨by decide, by decide⟩ rfl hl.1 rfl (Nat.le_of_ble_eq_true rfl) dX_riser_30 ⟨by decide, by decide⟩ (fun H locs hG hS => ?_)
  refine lv_istore_n (lv' := [(2, .int (fstF (rFitP ru rl (up j) (lo j)) nr 0)), (0, .ref (a 0)), (1, .int (nI j))]) hx hb dX_riser_33 rfl hl (by decide) rfl (fun ls hl => ?_)
  refine lv_iload_n hx hb dX_riser_34 rfl (lv_at hl 0 rfl) ?_
  refine lv_iconst (v := (-1)) hx hb dX_riser_35 (by decide) ?_
  refine lv_icmp_ne (tgt := 49) hx hb dX_riser_36 (by decide) (fun c1 => ?_) (fun c1 => ?_)
  · exact absurd hf c1
  · exact x_throw hQ hl9 xok_eUOE (show ((135 : Nat), "no riser row is great enough") ∈ xStr by decide +kernel) hx hb hml hown hts hG hK hS hXS hlk htab hl.1 dX_riser_39 dX_riser_42 dX_riser_43 dX_riser_45 dX_riser_48 (by decide) (by decide) (by decide) (by decide) (by decide) (by decide)

abbrev rmX_cutOff : Room := { frames := 2, cells := 0, slots := 0, locals := 42 }
set_option maxRecDepth 100000 in
set_option maxHeartbeats 4000000 in
theorem kX_cutOff {l : Launch} {D : va_G} {k : ClassId × ClassId × ClassId} {a : Nat → Nat} {B0 : Nat} {w : Nat → va_E} (hA : gA B0 a) {n : Nat} {up : Nat → Int64} {lo : Nat → Int64} {fa : Nat → Int32} {we : Nat → Int32} {ti : Nat → Int32} {ri : Nat → Int32} {jo : Nat → Int32} (hsX : sX k a w ) (hsP : sP k a w n up lo fa we ti ri jo) (j : Nat) (hj : j < n) (hn : n ≤ 12) (hr9 : ¬ ri j = -1) : Met l yX_cutOff (tbw yX_cutOff cX_cutOff 2 none) rmX_cutOff (gPc D k a B0 w [.ref (a 0), .int (nI j)]) (va_Qv (fun w1 => (sP k a w1 n up lo fa we ti (upd ri j (-1)) jo) ∧ ∀ z, z < 1 ∨ 8 < z → w1 z = w z) (gB D k a) (gF B0)) 0 0 (gF B0) := by
  have hsX0 := hsX
  obtain ⟨hsP1, hsP2, hsP3, hsP4, hsP5, hsP6, hsP7, hsP8⟩ := hsP
  refine g_ofW (by decide) rfl (fun p e s m args below meth c Q hQ hx hb hr hlk hml hown hts hB hG hK hS ls hl => ?_)
  have hl : lv_has ls 2 [(0, .ref (a 0)), (1, .int (nI j))] := hl
  have hown : s.vm.findClass RX = some m.cls := hown
  have hfr0 : ∀ z, z < 1 ∨ 8 < z → w z = w z := fun _ _ => rfl
  refine lv_aload_n hx hb dX_cutOff_0 rfl (lv_at hl 0 rfl) ?_
  refine lv_iload_n hx hb dX_cutOff_1 rfl (lv_at hl 1 rfl) ?_
  refine g_VvR (i := 0) (As := [.int (nI j)]) (rest := []) (kX_requirePart hA hsX0 ⟨hsP1, hsP2, hsP3, hsP4, hsP5, hsP6, hsP7, hsP8⟩ j (by omega) (by omega)) calX_requirePart cvX_requirePart mlX_52 hx hb hml hown hts hB hG hK hS (by decide) hsX0 rfl ⟨by decide, by decide⟩ rfl hl.1 rfl (Nat.le_of_ble_eq_true rfl) dX_cutOff_2 ⟨by decide, by decide⟩ (fun H locs hG hS => ?_)
  refine lv_aload_n hx hb dX_cutOff_5 rfl (lv_at hl 0 rfl) ?_
  refine g_get hx hb hts inX hown hK hG 0 (by decide) hsX0 rfl 0 (by decide) lkX_10 rfl dX_cutOff_6 ?_
  refine lv_iload_n hx hb dX_cutOff_9 rfl (lv_at hl 1 rfl) ?_
  refine g_ViR (i := 1) (As := [.int (nI j)]) (rest := []) (kP_riserOf hA ⟨hsP1, hsP2, hsP3, hsP4, hsP5, hsP6, hsP7, hsP8⟩ j (by omega)) calP_riserOf cvP_riserOf mlX_142 hx hb hml hown hts hB hG hK hS (by decide) hsP1 rfl ⟨by decide, by decide⟩ rfl hl.1 rfl (Nat.le_of_ble_eq_true rfl) dX_cutOff_10 ⟨by decide, by decide⟩ (fun H locs hG hS => ?_)
  refine lv_iconst (v := (-1)) hx hb dX_cutOff_13 (by decide) ?_
  refine lv_icmp_ne (tgt := 27) hx hb dX_cutOff_14 (by decide) (fun c1 => ?_) (fun c1 => ?_)
  · refine lv_aload_n hx hb dX_cutOff_27 rfl (lv_at hl 0 rfl) ?_
    refine g_get hx hb hts inX hown hK hG 0 (by decide) hsX0 rfl 0 (by decide) lkX_10 rfl dX_cutOff_28 ?_
    refine lv_iload_n hx hb dX_cutOff_31 rfl (lv_at hl 1 rfl) ?_
    refine lv_iconst (v := (-1)) hx hb dX_cutOff_32 (by decide) ?_
    refine g_Vv (i := 1) (As := [.int (nI j), .int (-1)]) (rest := []) (kP_setRiser hA ⟨hsP1, hsP2, hsP3, hsP4, hsP5, hsP6, hsP7, hsP8⟩ j (-1) (by omega)) calP_setRiser cvP_setRiser mlX_138 hx hb hml hown hts hB hG hK hS (by decide) hsP1 rfl ⟨by decide, by decide⟩ rfl hl.1 rfl (Nat.le_of_ble_eq_true rfl) dX_cutOff_33 ⟨by decide, by decide⟩ (fun w3 H locs hp4 hG hS => ?_)
    obtain ⟨⟨h5, h6, h7, h8, h9, h10, h11, h12⟩, hfr14⟩ := hp4
    have h15 : w3 0 = .inr (0, [.ref (a 1), .ref (a 9), .ref (a 12), .ref (a 15)]) := (hfr14 0 (by omega)).trans hsX0
    have hfr16 : ∀ z, z < 1 ∨ 8 < z → w3 z = w z := fun z hz => (hfr14 z (by omega)).trans (hfr0 z hz)
    exact g_vret hQ hx hb hr hlk hG hK hS (by decide) (by decide) ⟨⟨h5, h6, h7, h8, h9, h10, h11, h12⟩, hfr16⟩ dX_cutOff_36
  · exfalso
    first | omega | contradiction | (simp_all; done) | grind

abbrev rmX_cutOff_p : Room := { frames := 7, cells := 1, slots := 6, locals := 103 }
set_option maxRecDepth 100000 in
set_option maxHeartbeats 4000000 in
theorem kX_cutOff_p {l : Launch} (hl9 : l.stackTraces = false) {D : va_G} {k : ClassId × ClassId × ClassId} {a : Nat → Nat} {B0 : Nat} {w : Nat → va_E} (hA : gA B0 a) {n : Nat} {up : Nat → Int64} {lo : Nat → Int64} {fa : Nat → Int32} {we : Nat → Int32} {ti : Nat → Int32} {ri : Nat → Int32} {jo : Nat → Int32} (hsX : sX k a w ) (hsP : sP k a w n up lo fa we ti ri jo) (q : Int32) (hq : ¬ (¬ q < 0 ∧ ¬ nI n ≤ q)) : xMet l yX_cutOff cX_cutOff 2 none rmX_cutOff_p D k a B0 w [.ref (a 0), .int q] eIOB := by
  have hsX0 := hsX
  obtain ⟨hsP1, hsP2, hsP3, hsP4, hsP5, hsP6, hsP7, hsP8⟩ := hsP
  refine x_ofW (by decide) rfl (fun p e s m args below meth c Q hQ htab hx hb hr hlk hml hown hts hB hG hK hS hXS ls hl => ?_)
  have hl : lv_has ls 2 [(0, .ref (a 0)), (1, .int q)] := hl
  have hown : s.vm.findClass RX = some m.cls := hown
  refine lv_aload_n hx hb dX_cutOff_0 rfl (lv_at hl 0 rfl) ?_
  refine lv_iload_n hx hb dX_cutOff_1 rfl (lv_at hl 1 rfl) ?_
  exact x_VB (i := 0) (As := [.int q]) (rest := []) hQ htab hlk (kX_requirePart_b hl9 hA hsX0 ⟨hsP1, hsP2, hsP3, hsP4, hsP5, hsP6, hsP7, hsP8⟩ q (by assumption)) calX_requirePart cvX_requirePart mlX_52 hx hb hml hown hts hB hG hK hS hXS (by decide) hsX0 rfl ⟨by decide, by decide⟩ rfl hl.1 rfl (Nat.le_of_ble_eq_true rfl) dX_cutOff_2 ⟨by decide, by decide⟩ (by decide) (by decide)

abbrev rmX_cutOff_r : Room := { frames := 7, cells := 1, slots := 6, locals := 103 }
set_option maxRecDepth 100000 in
set_option maxHeartbeats 4000000 in
theorem kX_cutOff_r {l : Launch} (hl9 : l.stackTraces = false) {D : va_G} {k : ClassId × ClassId × ClassId} {a : Nat → Nat} {B0 : Nat} {w : Nat → va_E} (hA : gA B0 a) {n : Nat} {up : Nat → Int64} {lo : Nat → Int64} {fa : Nat → Int32} {we : Nat → Int32} {ti : Nat → Int32} {ri : Nat → Int32} {jo : Nat → Int32} (hsX : sX k a w ) (hsP : sP k a w n up lo fa we ti ri jo) (j : Nat) (hj : j < n) (hn : n ≤ 12) (hr9 : ri j = -1) : xMet l yX_cutOff cX_cutOff 2 none rmX_cutOff_r D k a B0 w [.ref (a 0), .int (nI j)] eISE := by
  have hsX0 := hsX
  obtain ⟨hsP1, hsP2, hsP3, hsP4, hsP5, hsP6, hsP7, hsP8⟩ := hsP
  refine x_ofW (by decide) rfl (fun p e s m args below meth c Q hQ htab hx hb hr hlk hml hown hts hB hG hK hS hXS ls hl => ?_)
  have hl : lv_has ls 2 [(0, .ref (a 0)), (1, .int (nI j))] := hl
  have hown : s.vm.findClass RX = some m.cls := hown
  refine lv_aload_n hx hb dX_cutOff_0 rfl (lv_at hl 0 rfl) ?_
  refine lv_iload_n hx hb dX_cutOff_1 rfl (lv_at hl 1 rfl) ?_
  refine g_VvR (i := 0) (As := [.int (nI j)]) (rest := []) (kX_requirePart hA hsX0 ⟨hsP1, hsP2, hsP3, hsP4, hsP5, hsP6, hsP7, hsP8⟩ j (by omega) (by omega)) calX_requirePart cvX_requirePart mlX_52 hx hb hml hown hts hB hG hK hS (by decide) hsX0 rfl ⟨by decide, by decide⟩ rfl hl.1 rfl (Nat.le_of_ble_eq_true rfl) dX_cutOff_2 ⟨by decide, by decide⟩ (fun H locs hG hS => ?_)
  refine lv_aload_n hx hb dX_cutOff_5 rfl (lv_at hl 0 rfl) ?_
  refine g_get hx hb hts inX hown hK hG 0 (by decide) hsX0 rfl 0 (by decide) lkX_10 rfl dX_cutOff_6 ?_
  refine lv_iload_n hx hb dX_cutOff_9 rfl (lv_at hl 1 rfl) ?_
  refine g_ViR (i := 1) (As := [.int (nI j)]) (rest := []) (kP_riserOf hA ⟨hsP1, hsP2, hsP3, hsP4, hsP5, hsP6, hsP7, hsP8⟩ j (by omega)) calP_riserOf cvP_riserOf mlX_142 hx hb hml hown hts hB hG hK hS (by decide) hsP1 rfl ⟨by decide, by decide⟩ rfl hl.1 rfl (Nat.le_of_ble_eq_true rfl) dX_cutOff_10 ⟨by decide, by decide⟩ (fun H locs hG hS => ?_)
  refine lv_iconst (v := (-1)) hx hb dX_cutOff_13 (by decide) ?_
  refine lv_icmp_ne (tgt := 27) hx hb dX_cutOff_14 (by decide) (fun c1 => ?_) (fun c1 => ?_)
  · exact absurd hr9 c1
  · exact x_throw hQ hl9 xok_eISE (show ((145 : Nat), "the part has no riser") ∈ xStr by decide +kernel) hx hb hml hown hts hG hK hS hXS hlk htab hl.1 dX_cutOff_17 dX_cutOff_20 dX_cutOff_21 dX_cutOff_23 dX_cutOff_26 (by decide) (by decide) (by decide) (by decide) (by decide) (by decide)

abbrev rmX_flowRow : Room := { frames := 1, cells := 0, slots := 0, locals := 22 }
set_option maxRecDepth 100000 in
set_option maxHeartbeats 4000000 in
theorem kX_flowRow {l : Launch} {D : va_G} {k : ClassId × ClassId × ClassId} {a : Nat → Nat} {B0 : Nat} {w : Nat → va_E} (hA : gA B0 a) {nf : Nat} {fo : Nat → Int32} {ff : Nat → Int32} (hsX : sX k a w ) (hsF : sF k a w nf fo ff) (q : Int32) (f : Int32) (hn : nf < 8) (h1 : opR q) (h2 : flR f) (hm : nf = 0 ∨ (¬ q ≤ fo (nf - 1) ∧ ¬ f < ff (nf - 1))) : Met l yX_flowRow (tbw yX_flowRow cX_flowRow 3 (some .int)) rmX_flowRow (gPc D k a B0 w [.ref (a 0), .int q, .int f]) (va_Qi (fun rr9 w1 => rr9 = (nI (nf + 1)) ∧ (sF k a w1 (nf + 1) (upd fo nf q) (upd ff nf f)) ∧ ∀ z, z < 12 ∨ 14 < z → w1 z = w z) (gB D k a) (gF B0)) 0 0 (gF B0) := by
  have hsX0 := hsX
  obtain ⟨hsF12, hsF13, hsF14⟩ := hsF
  refine g_ofW (by decide) rfl (fun p e s m args below meth c Q hQ hx hb hr hlk hml hown hts hB hG hK hS ls hl => ?_)
  have hl : lv_has ls 3 [(0, .ref (a 0)), (1, .int q), (2, .int f)] := hl
  have hown : s.vm.findClass RX = some m.cls := hown
  have hfr0 : ∀ z, z < 12 ∨ 14 < z → w z = w z := fun _ _ => rfl
  refine lv_aload_n hx hb dX_flowRow_0 rfl (lv_at hl 0 rfl) ?_
  refine g_get hx hb hts inX hown hK hG 0 (by decide) hsX0 rfl 2 (by decide) lkX_26 rfl dX_flowRow_1 ?_
  refine g_ViR (i := 12) (As := []) (rest := []) (kF_isFull hA ⟨hsF12, hsF13, hsF14⟩ (by omega)) calF_isFull cvF_isFull mlX_150 hx hb hml hown hts hB hG hK hS (by decide) hsF12 rfl ⟨by decide, by decide⟩ rfl hl.1 rfl (Nat.le_of_ble_eq_true rfl) dX_flowRow_4 ⟨by decide, by decide⟩ (fun H locs hG hS => ?_)
  refine lb_if_eq (tgt := 20) hx hb dX_flowRow_7 (by decide) (fun c1 => ?_) (fun c1 => ?_)
  · refine lv_iload_n hx hb dX_flowRow_20 rfl (lv_at hl 1 rfl) ?_
    refine g_SvR (As := [.int q]) (rest := []) (kX_requireOpening hA q (by assumption)) calX_requireOpening cvX_requireOpening mlX_153 hx hb hml hown hts hB hG hK hS ⟨by decide, by decide⟩ rfl hl.1 rfl (Nat.le_of_ble_eq_true rfl) dX_flowRow_21 ⟨by decide, by decide⟩ (fun H locs hG hS => ?_)
    refine lv_iload_n hx hb dX_flowRow_24 rfl (lv_at hl 2 rfl) ?_
    refine g_SvR (As := [.int f]) (rest := []) (kX_requireFlow hA f (by assumption)) calX_requireFlow cvX_requireFlow mlX_156 hx hb hml hown hts hB hG hK hS ⟨by decide, by decide⟩ rfl hl.1 rfl (Nat.le_of_ble_eq_true rfl) dX_flowRow_25 ⟨by decide, by decide⟩ (fun H locs hG hS => ?_)
    refine lv_aload_n hx hb dX_flowRow_28 rfl (lv_at hl 0 rfl) ?_
    refine g_get hx hb hts inX hown hK hG 0 (by decide) hsX0 rfl 2 (by decide) lkX_26 rfl dX_flowRow_29 ?_
    refine lv_iload_n hx hb dX_flowRow_32 rfl (lv_at hl 1 rfl) ?_
    refine lv_iload_n hx hb dX_flowRow_33 rfl (lv_at hl 2 rfl) ?_
    refine g_ViR (i := 12) (As := [.int q, .int f]) (rest := []) (kF_mayFollow hA ⟨hsF12, hsF13, hsF14⟩ q f (by omega)) calF_mayFollow cvF_mayFollow mlX_159 hx hb hml hown hts hB hG hK hS (by decide) hsF12 rfl ⟨by decide, by decide⟩ rfl hl.1 rfl (Nat.le_of_ble_eq_true rfl) dX_flowRow_34 ⟨by decide, by decide⟩ (fun H locs hG hS => ?_)
    refine lb_if_ne (tgt := 50) hx hb dX_flowRow_37 (by decide) (fun c2 => ?_) (fun c2 => ?_)
    · refine lv_aload_n hx hb dX_flowRow_50 rfl (lv_at hl 0 rfl) ?_
      refine g_get hx hb hts inX hown hK hG 0 (by decide) hsX0 rfl 2 (by decide) lkX_26 rfl dX_flowRow_51 ?_
      refine lv_iload_n hx hb dX_flowRow_54 rfl (lv_at hl 1 rfl) ?_
      refine lv_iload_n hx hb dX_flowRow_55 rfl (lv_at hl 2 rfl) ?_
      refine g_Vi (i := 12) (As := [.int q, .int f]) (rest := []) (kF_addRow hA ⟨hsF12, hsF13, hsF14⟩ q f (by omega)) calF_addRow cvF_addRow mlX_164 hx hb hml hown hts hB hG hK hS (by decide) hsF12 rfl ⟨by decide, by decide⟩ rfl hl.1 rfl (Nat.le_of_ble_eq_true rfl) dX_flowRow_56 ⟨by decide, by decide⟩ (fun r3 w4 H locs hp5 hG hS => ?_)
      obtain ⟨er9, ⟨h6, h7, h8⟩, hfr10⟩ := hp5
      have h11 : w4 0 = .inr (0, [.ref (a 1), .ref (a 9), .ref (a 12), .ref (a 15)]) := (hfr10 0 (by omega)).trans hsX0
      have hfr12 : ∀ z, z < 12 ∨ 14 < z → w4 z = w z := fun z hz => (hfr10 z (by omega)).trans (hfr0 z hz)
      rw [er9]
      exact g_iret hQ hx hb hr hlk hG hK hS (by decide) (by decide) ⟨by first | rfl | omega | (simp_all; done) | grind, ⟨h6, h7, h8⟩, hfr12⟩ dX_flowRow_59
    · exfalso
      first | omega | contradiction | (simp_all; done) | grind
  · exfalso
    first | omega | contradiction | (simp_all; done) | grind

abbrev rmX_flowRow_f : Room := { frames := 7, cells := 1, slots := 6, locals := 102 }
set_option maxRecDepth 100000 in
set_option maxHeartbeats 4000000 in
theorem kX_flowRow_f {l : Launch} (hl9 : l.stackTraces = false) {D : va_G} {k : ClassId × ClassId × ClassId} {a : Nat → Nat} {B0 : Nat} {w : Nat → va_E} (hA : gA B0 a) {nf : Nat} {fo : Nat → Int32} {ff : Nat → Int32} (hsX : sX k a w ) (hsF : sF k a w nf fo ff) (q : Int32) (f : Int32) (hn : nf = 8) : xMet l yX_flowRow cX_flowRow 3 (some .int) rmX_flowRow_f D k a B0 w [.ref (a 0), .int q, .int f] eISE := by
  have hsX0 := hsX
  obtain ⟨hsF12, hsF13, hsF14⟩ := hsF
  refine x_ofW (by decide) rfl (fun p e s m args below meth c Q hQ htab hx hb hr hlk hml hown hts hB hG hK hS hXS ls hl => ?_)
  have hl : lv_has ls 3 [(0, .ref (a 0)), (1, .int q), (2, .int f)] := hl
  have hown : s.vm.findClass RX = some m.cls := hown
  refine lv_aload_n hx hb dX_flowRow_0 rfl (lv_at hl 0 rfl) ?_
  refine g_get hx hb hts inX hown hK hG 0 (by decide) hsX0 rfl 2 (by decide) lkX_26 rfl dX_flowRow_1 ?_
  refine g_ViR (i := 12) (As := []) (rest := []) (kF_isFull hA ⟨hsF12, hsF13, hsF14⟩ (by omega)) calF_isFull cvF_isFull mlX_150 hx hb hml hown hts hB hG hK hS (by decide) hsF12 rfl ⟨by decide, by decide⟩ rfl hl.1 rfl (Nat.le_of_ble_eq_true rfl) dX_flowRow_4 ⟨by decide, by decide⟩ (fun H locs hG hS => ?_)
  refine lb_if_eq (tgt := 20) hx hb dX_flowRow_7 (by decide) (fun c1 => ?_) (fun c1 => ?_)
  · exact absurd (by omega) c1
  · exact x_throw hQ hl9 xok_eISE (show ((151 : Nat), "there are 8 flow rows") ∈ xStr by decide +kernel) hx hb hml hown hts hG hK hS hXS hlk htab hl.1 dX_flowRow_10 dX_flowRow_13 dX_flowRow_14 dX_flowRow_16 dX_flowRow_19 (by decide) (by decide) (by decide) (by decide) (by decide) (by decide)

abbrev rmX_flowRow_z : Room := { frames := 7, cells := 1, slots := 6, locals := 102 }
set_option maxRecDepth 100000 in
set_option maxHeartbeats 4000000 in
theorem kX_flowRow_z {l : Launch} (hl9 : l.stackTraces = false) {D : va_G} {k : ClassId × ClassId × ClassId} {a : Nat → Nat} {B0 : Nat} {w : Nat → va_E} (hA : gA B0 a) {nf : Nat} {fo : Nat → Int32} {ff : Nat → Int32} (hsX : sX k a w ) (hsF : sF k a w nf fo ff) (q : Int32) (f : Int32) (hn : nf < 8) (hz : ¬ (opR q ∧ flR f)) : xMet l yX_flowRow cX_flowRow 3 (some .int) rmX_flowRow_z D k a B0 w [.ref (a 0), .int q, .int f] eIAE := by
  have hsX0 := hsX
  obtain ⟨hsF12, hsF13, hsF14⟩ := hsF
  refine x_ofW (by decide) rfl (fun p e s m args below meth c Q hQ htab hx hb hr hlk hml hown hts hB hG hK hS hXS ls hl => ?_)
  have hl : lv_has ls 3 [(0, .ref (a 0)), (1, .int q), (2, .int f)] := hl
  have hown : s.vm.findClass RX = some m.cls := hown
  refine lv_aload_n hx hb dX_flowRow_0 rfl (lv_at hl 0 rfl) ?_
  refine g_get hx hb hts inX hown hK hG 0 (by decide) hsX0 rfl 2 (by decide) lkX_26 rfl dX_flowRow_1 ?_
  refine g_ViR (i := 12) (As := []) (rest := []) (kF_isFull hA ⟨hsF12, hsF13, hsF14⟩ (by omega)) calF_isFull cvF_isFull mlX_150 hx hb hml hown hts hB hG hK hS (by decide) hsF12 rfl ⟨by decide, by decide⟩ rfl hl.1 rfl (Nat.le_of_ble_eq_true rfl) dX_flowRow_4 ⟨by decide, by decide⟩ (fun H locs hG hS => ?_)
  refine lb_if_eq (tgt := 20) hx hb dX_flowRow_7 (by decide) (fun c1 => ?_) (fun c1 => ?_)
  · refine lv_iload_n hx hb dX_flowRow_20 rfl (lv_at hl 1 rfl) ?_
    by_cases hs2 : opR q
    · refine g_SvR (As := [.int q]) (rest := []) (kX_requireOpening hA q (by assumption)) calX_requireOpening cvX_requireOpening mlX_153 hx hb hml hown hts hB hG hK hS ⟨by decide, by decide⟩ rfl hl.1 rfl (Nat.le_of_ble_eq_true rfl) dX_flowRow_21 ⟨by decide, by decide⟩ (fun H locs hG hS => ?_)
      refine lv_iload_n hx hb dX_flowRow_24 rfl (lv_at hl 2 rfl) ?_
      by_cases hs3 : flR f
      · refine g_SvR (As := [.int f]) (rest := []) (kX_requireFlow hA f (by assumption)) calX_requireFlow cvX_requireFlow mlX_156 hx hb hml hown hts hB hG hK hS ⟨by decide, by decide⟩ rfl hl.1 rfl (Nat.le_of_ble_eq_true rfl) dX_flowRow_25 ⟨by decide, by decide⟩ (fun H locs hG hS => ?_)
        exact absurd ⟨by assumption, by assumption⟩ hz
      · exact x_SB (As := [.int f]) (rest := []) hQ htab hlk (kX_requireFlow_b hl9 hA f (by assumption)) calX_requireFlow cvX_requireFlow mlX_156 hx hb hml hown hts hB hG hK hS hXS ⟨by decide, by decide⟩ rfl hl.1 rfl (Nat.le_of_ble_eq_true rfl) dX_flowRow_25 ⟨by decide, by decide⟩ (by decide) (by decide)
    · exact x_SB (As := [.int q]) (rest := []) hQ htab hlk (kX_requireOpening_b hl9 hA q (by assumption)) calX_requireOpening cvX_requireOpening mlX_153 hx hb hml hown hts hB hG hK hS hXS ⟨by decide, by decide⟩ rfl hl.1 rfl (Nat.le_of_ble_eq_true rfl) dX_flowRow_21 ⟨by decide, by decide⟩ (by decide) (by decide)
  · exfalso
    first | omega | contradiction | (simp_all; done) | grind

abbrev rmX_flowRow_m : Room := { frames := 7, cells := 1, slots := 6, locals := 102 }
set_option maxRecDepth 100000 in
set_option maxHeartbeats 4000000 in
theorem kX_flowRow_m {l : Launch} (hl9 : l.stackTraces = false) {D : va_G} {k : ClassId × ClassId × ClassId} {a : Nat → Nat} {B0 : Nat} {w : Nat → va_E} (hA : gA B0 a) {nf : Nat} {fo : Nat → Int32} {ff : Nat → Int32} (hsX : sX k a w ) (hsF : sF k a w nf fo ff) (q : Int32) (f : Int32) (hn : nf < 8) (h1 : opR q) (h2 : flR f) (hm : ¬ (nf = 0 ∨ (¬ q ≤ fo (nf - 1) ∧ ¬ f < ff (nf - 1)))) : xMet l yX_flowRow cX_flowRow 3 (some .int) rmX_flowRow_m D k a B0 w [.ref (a 0), .int q, .int f] eUOE := by
  have hsX0 := hsX
  obtain ⟨hsF12, hsF13, hsF14⟩ := hsF
  refine x_ofW (by decide) rfl (fun p e s m args below meth c Q hQ htab hx hb hr hlk hml hown hts hB hG hK hS hXS ls hl => ?_)
  have hl : lv_has ls 3 [(0, .ref (a 0)), (1, .int q), (2, .int f)] := hl
  have hown : s.vm.findClass RX = some m.cls := hown
  refine lv_aload_n hx hb dX_flowRow_0 rfl (lv_at hl 0 rfl) ?_
  refine g_get hx hb hts inX hown hK hG 0 (by decide) hsX0 rfl 2 (by decide) lkX_26 rfl dX_flowRow_1 ?_
  refine g_ViR (i := 12) (As := []) (rest := []) (kF_isFull hA ⟨hsF12, hsF13, hsF14⟩ (by omega)) calF_isFull cvF_isFull mlX_150 hx hb hml hown hts hB hG hK hS (by decide) hsF12 rfl ⟨by decide, by decide⟩ rfl hl.1 rfl (Nat.le_of_ble_eq_true rfl) dX_flowRow_4 ⟨by decide, by decide⟩ (fun H locs hG hS => ?_)
  refine lb_if_eq (tgt := 20) hx hb dX_flowRow_7 (by decide) (fun c1 => ?_) (fun c1 => ?_)
  · refine lv_iload_n hx hb dX_flowRow_20 rfl (lv_at hl 1 rfl) ?_
    refine g_SvR (As := [.int q]) (rest := []) (kX_requireOpening hA q (by assumption)) calX_requireOpening cvX_requireOpening mlX_153 hx hb hml hown hts hB hG hK hS ⟨by decide, by decide⟩ rfl hl.1 rfl (Nat.le_of_ble_eq_true rfl) dX_flowRow_21 ⟨by decide, by decide⟩ (fun H locs hG hS => ?_)
    refine lv_iload_n hx hb dX_flowRow_24 rfl (lv_at hl 2 rfl) ?_
    refine g_SvR (As := [.int f]) (rest := []) (kX_requireFlow hA f (by assumption)) calX_requireFlow cvX_requireFlow mlX_156 hx hb hml hown hts hB hG hK hS ⟨by decide, by decide⟩ rfl hl.1 rfl (Nat.le_of_ble_eq_true rfl) dX_flowRow_25 ⟨by decide, by decide⟩ (fun H locs hG hS => ?_)
    refine lv_aload_n hx hb dX_flowRow_28 rfl (lv_at hl 0 rfl) ?_
    refine g_get hx hb hts inX hown hK hG 0 (by decide) hsX0 rfl 2 (by decide) lkX_26 rfl dX_flowRow_29 ?_
    refine lv_iload_n hx hb dX_flowRow_32 rfl (lv_at hl 1 rfl) ?_
    refine lv_iload_n hx hb dX_flowRow_33 rfl (lv_at hl 2 rfl) ?_
    refine g_ViR (i := 12) (As := [.int q, .int f]) (rest := []) (kF_mayFollow hA ⟨hsF12, hsF13, hsF14⟩ q f (by omega)) calF_mayFollow cvF_mayFollow mlX_159 hx hb hml hown hts hB hG hK hS (by decide) hsF12 rfl ⟨by decide, by decide⟩ rfl hl.1 rfl (Nat.le_of_ble_eq_true rfl) dX_flowRow_34 ⟨by decide, by decide⟩ (fun H locs hG hS => ?_)
    refine lb_if_ne (tgt := 50) hx hb dX_flowRow_37 (by decide) (fun c2 => ?_) (fun c2 => ?_)
    · exact absurd c2 hm
    · exact x_throw hQ hl9 xok_eUOE (show ((162 : Nat), "openings rise and flows do not fall") ∈ xStr by decide +kernel) hx hb hml hown hts hG hK hS hXS hlk htab hl.1 dX_flowRow_40 dX_flowRow_43 dX_flowRow_44 dX_flowRow_46 dX_flowRow_49 (by decide) (by decide) (by decide) (by decide) (by decide) (by decide)
  · exfalso
    first | omega | contradiction | (simp_all; done) | grind

abbrev rmX_flow : Room := { frames := 2, cells := 0, slots := 0, locals := 49 }
set_option maxRecDepth 100000 in
set_option maxHeartbeats 4000000 in
theorem kX_flow {l : Launch} {D : va_G} {k : ClassId × ClassId × ClassId} {a : Nat → Nat} {B0 : Nat} {w : Nat → va_E} (hA : gA B0 a) {nf : Nat} {fo : Nat → Int32} {ff : Nat → Int32} (hsX : sX k a w ) (hsF : sF k a w nf fo ff) (q : Int32) (h0 : 0 < nf) (hn : nf ≤ 8) (h1 : opR q) : Met l yX_flow (tbw yX_flow cX_flow 2 (some .int)) rmX_flow (gPc D k a B0 w [.ref (a 0), .int q]) (va_Qi (roP (flAt fo ff nf q) w) (gB D k a) (gF B0)) 0 0 (gF B0) := by
  have hsX0 := hsX
  obtain ⟨hsF12, hsF13, hsF14⟩ := hsF
  refine g_ofW (by decide) rfl (fun p e s m args below meth c Q hQ hx hb hr hlk hml hown hts hB hG hK hS ls hl => ?_)
  have hl : lv_has ls 2 [(0, .ref (a 0)), (1, .int q)] := hl
  have hown : s.vm.findClass RX = some m.cls := hown
  refine lv_aload_n hx hb dX_flow_0 rfl (lv_at hl 0 rfl) ?_
  refine g_VvR (i := 0) (As := []) (rest := []) (kX_requireFlowRows hA hsX0 ⟨hsF12, hsF13, hsF14⟩ (by omega) (by omega)) calX_requireFlowRows cvX_requireFlowRows mlX_165 hx hb hml hown hts hB hG hK hS (by decide) hsX0 rfl ⟨by decide, by decide⟩ rfl hl.1 rfl (Nat.le_of_ble_eq_true rfl) dX_flow_1 ⟨by decide, by decide⟩ (fun H locs hG hS => ?_)
  refine lv_iload_n hx hb dX_flow_4 rfl (lv_at hl 1 rfl) ?_
  refine g_SvR (As := [.int q]) (rest := []) (kX_requireOpening hA q (by assumption)) calX_requireOpening cvX_requireOpening mlX_153 hx hb hml hown hts hB hG hK hS ⟨by decide, by decide⟩ rfl hl.1 rfl (Nat.le_of_ble_eq_true rfl) dX_flow_5 ⟨by decide, by decide⟩ (fun H locs hG hS => ?_)
  refine lv_aload_n hx hb dX_flow_8 rfl (lv_at hl 0 rfl) ?_
  refine g_get hx hb hts inX hown hK hG 0 (by decide) hsX0 rfl 2 (by decide) lkX_26 rfl dX_flow_9 ?_
  refine lv_iload_n hx hb dX_flow_12 rfl (lv_at hl 1 rfl) ?_
  refine g_ViR (i := 12) (As := [.int q]) (rest := []) (kF_flowAt hA ⟨hsF12, hsF13, hsF14⟩ q (by omega) (by omega)) calF_flowAt cvF_flowAt mlX_168 hx hb hml hown hts hB hG hK hS (by decide) hsF12 rfl ⟨by decide, by decide⟩ rfl hl.1 rfl (Nat.le_of_ble_eq_true rfl) dX_flow_13 ⟨by decide, by decide⟩ (fun H locs hG hS => ?_)
  exact g_iret hQ hx hb hr hlk hG hK hS (by decide) (by decide) ⟨by first | rfl | omega | (simp_all; done) | grind, rfl⟩ dX_flow_16

abbrev rmX_flow_f : Room := { frames := 7, cells := 1, slots := 6, locals := 102 }
set_option maxRecDepth 100000 in
set_option maxHeartbeats 4000000 in
theorem kX_flow_f {l : Launch} (hl9 : l.stackTraces = false) {D : va_G} {k : ClassId × ClassId × ClassId} {a : Nat → Nat} {B0 : Nat} {w : Nat → va_E} (hA : gA B0 a) {nf : Nat} {fo : Nat → Int32} {ff : Nat → Int32} (hsX : sX k a w ) (hsF : sF k a w nf fo ff) (q : Int32) (h0 : nf = 0) : xMet l yX_flow cX_flow 2 (some .int) rmX_flow_f D k a B0 w [.ref (a 0), .int q] eISE := by
  have hsX0 := hsX
  obtain ⟨hsF12, hsF13, hsF14⟩ := hsF
  refine x_ofW (by decide) rfl (fun p e s m args below meth c Q hQ htab hx hb hr hlk hml hown hts hB hG hK hS hXS ls hl => ?_)
  have hl : lv_has ls 2 [(0, .ref (a 0)), (1, .int q)] := hl
  have hown : s.vm.findClass RX = some m.cls := hown
  refine lv_aload_n hx hb dX_flow_0 rfl (lv_at hl 0 rfl) ?_
  exact x_VB (i := 0) (As := []) (rest := []) hQ htab hlk (kX_requireFlowRows_b hl9 hA hsX0 ⟨hsF12, hsF13, hsF14⟩ (by omega)) calX_requireFlowRows cvX_requireFlowRows mlX_165 hx hb hml hown hts hB hG hK hS hXS (by decide) hsX0 rfl ⟨by decide, by decide⟩ rfl hl.1 rfl (Nat.le_of_ble_eq_true rfl) dX_flow_1 ⟨by decide, by decide⟩ (by decide) (by decide)

abbrev rmX_flow_z : Room := { frames := 7, cells := 1, slots := 6, locals := 102 }
set_option maxRecDepth 100000 in
set_option maxHeartbeats 4000000 in
theorem kX_flow_z {l : Launch} (hl9 : l.stackTraces = false) {D : va_G} {k : ClassId × ClassId × ClassId} {a : Nat → Nat} {B0 : Nat} {w : Nat → va_E} (hA : gA B0 a) {nf : Nat} {fo : Nat → Int32} {ff : Nat → Int32} (hsX : sX k a w ) (hsF : sF k a w nf fo ff) (q : Int32) (h0 : 0 < nf) (hn : nf ≤ 8) (h1 : ¬ opR q) : xMet l yX_flow cX_flow 2 (some .int) rmX_flow_z D k a B0 w [.ref (a 0), .int q] eIAE := by
  have hsX0 := hsX
  obtain ⟨hsF12, hsF13, hsF14⟩ := hsF
  refine x_ofW (by decide) rfl (fun p e s m args below meth c Q hQ htab hx hb hr hlk hml hown hts hB hG hK hS hXS ls hl => ?_)
  have hl : lv_has ls 2 [(0, .ref (a 0)), (1, .int q)] := hl
  have hown : s.vm.findClass RX = some m.cls := hown
  refine lv_aload_n hx hb dX_flow_0 rfl (lv_at hl 0 rfl) ?_
  refine g_VvR (i := 0) (As := []) (rest := []) (kX_requireFlowRows hA hsX0 ⟨hsF12, hsF13, hsF14⟩ (by omega) (by omega)) calX_requireFlowRows cvX_requireFlowRows mlX_165 hx hb hml hown hts hB hG hK hS (by decide) hsX0 rfl ⟨by decide, by decide⟩ rfl hl.1 rfl (Nat.le_of_ble_eq_true rfl) dX_flow_1 ⟨by decide, by decide⟩ (fun H locs hG hS => ?_)
  refine lv_iload_n hx hb dX_flow_4 rfl (lv_at hl 1 rfl) ?_
  exact x_SB (As := [.int q]) (rest := []) hQ htab hlk (kX_requireOpening_b hl9 hA q (by assumption)) calX_requireOpening cvX_requireOpening mlX_153 hx hb hml hown hts hB hG hK hS hXS ⟨by decide, by decide⟩ rfl hl.1 rfl (Nat.le_of_ble_eq_true rfl) dX_flow_5 ⟨by decide, by decide⟩ (by decide) (by decide)

abbrev rmX_gate : Room := { frames := 3, cells := 0, slots := 0, locals := 74 }
set_option maxRecDepth 100000 in
set_option maxHeartbeats 4000000 in
theorem kX_gate {l : Launch} {D : va_G} {k : ClassId × ClassId × ClassId} {a : Nat → Nat} {B0 : Nat} {w : Nat → va_E} (hA : gA B0 a) {nf : Nat} {fo : Nat → Int32} {ff : Nat → Int32} (hsX : sX k a w ) (hsF : sF k a w nf fo ff) (q : Int32) (h0 : 0 < nf) (hn : nf ≤ 8) (h1 : flR q) (hm : q ≤ flAt fo ff nf 10000) : Met l yX_gate (tbw yX_gate cX_gate 2 (some .int)) rmX_gate (gPc D k a B0 w [.ref (a 0), .int q]) (va_Qi (roP (nI (gaF (flAt fo ff nf) q 100 0 10000)) w) (gB D k a) (gF B0)) 0 0 (gF B0) := by
  have hsX0 := hsX
  obtain ⟨hsF12, hsF13, hsF14⟩ := hsF
  refine g_ofW (by decide) rfl (fun p e s m args below meth c Q hQ hx hb hr hlk hml hown hts hB hG hK hS ls hl => ?_)
  have hl : lv_has ls 2 [(0, .ref (a 0)), (1, .int q)] := hl
  have hown : s.vm.findClass RX = some m.cls := hown
  refine lv_aload_n hx hb dX_gate_0 rfl (lv_at hl 0 rfl) ?_
  refine g_VvR (i := 0) (As := []) (rest := []) (kX_requireFlowRows hA hsX0 ⟨hsF12, hsF13, hsF14⟩ (by omega) (by omega)) calX_requireFlowRows cvX_requireFlowRows mlX_165 hx hb hml hown hts hB hG hK hS (by decide) hsX0 rfl ⟨by decide, by decide⟩ rfl hl.1 rfl (Nat.le_of_ble_eq_true rfl) dX_gate_1 ⟨by decide, by decide⟩ (fun H locs hG hS => ?_)
  refine lv_iload_n hx hb dX_gate_4 rfl (lv_at hl 1 rfl) ?_
  refine g_SvR (As := [.int q]) (rest := []) (kX_requireFlow hA q (by assumption)) calX_requireFlow cvX_requireFlow mlX_156 hx hb hml hown hts hB hG hK hS ⟨by decide, by decide⟩ rfl hl.1 rfl (Nat.le_of_ble_eq_true rfl) dX_gate_5 ⟨by decide, by decide⟩ (fun H locs hG hS => ?_)
  refine lv_aload_n hx hb dX_gate_8 rfl (lv_at hl 0 rfl) ?_
  refine g_get hx hb hts inX hown hK hG 0 (by decide) hsX0 rfl 2 (by decide) lkX_26 rfl dX_gate_9 ?_
  refine lv_sipush (v := 10000) hx hb dX_gate_12 (by decide) ?_
  refine g_ViR (i := 12) (As := [.int 10000]) (rest := []) (kF_flowAt hA ⟨hsF12, hsF13, hsF14⟩ 10000 (by omega) (by omega)) calF_flowAt cvF_flowAt mlX_168 hx hb hml hown hts hB hG hK hS (by decide) hsF12 rfl ⟨by decide, by decide⟩ rfl hl.1 rfl (Nat.le_of_ble_eq_true rfl) dX_gate_15 ⟨by decide, by decide⟩ (fun H locs hG hS => ?_)
  refine lv_iload_n hx hb dX_gate_18 rfl (lv_at hl 1 rfl) ?_
  refine lv_icmp_ge (tgt := 32) hx hb dX_gate_19 (by decide) (fun c1 => ?_) (fun c1 => ?_)
  · refine lv_aload_n hx hb dX_gate_32 rfl (lv_at hl 0 rfl) ?_
    refine g_get hx hb hts inX hown hK hG 0 (by decide) hsX0 rfl 2 (by decide) lkX_26 rfl dX_gate_33 ?_
    refine lv_iload_n hx hb dX_gate_36 rfl (lv_at hl 1 rfl) ?_
    refine g_ViR (i := 12) (As := [.int q]) (rest := []) (kF_leastOpeningFor hA ⟨hsF12, hsF13, hsF14⟩ q (by omega) (by omega)) calF_leastOpeningFor cvF_leastOpeningFor mlX_173 hx hb hml hown hts hB hG hK hS (by decide) hsF12 rfl ⟨by decide, by decide⟩ rfl hl.1 rfl (Nat.le_of_ble_eq_true rfl) dX_gate_37 ⟨by decide, by decide⟩ (fun H locs hG hS => ?_)
    exact g_iret hQ hx hb hr hlk hG hK hS (by decide) (by decide) ⟨by first | rfl | omega | (simp_all; done) | grind, rfl⟩ dX_gate_40
  · exfalso
    first | omega | contradiction | (simp_all; done) | grind

abbrev rmX_gate_f : Room := { frames := 7, cells := 1, slots := 6, locals := 102 }
set_option maxRecDepth 100000 in
set_option maxHeartbeats 4000000 in
theorem kX_gate_f {l : Launch} (hl9 : l.stackTraces = false) {D : va_G} {k : ClassId × ClassId × ClassId} {a : Nat → Nat} {B0 : Nat} {w : Nat → va_E} (hA : gA B0 a) {nf : Nat} {fo : Nat → Int32} {ff : Nat → Int32} (hsX : sX k a w ) (hsF : sF k a w nf fo ff) (q : Int32) (h0 : nf = 0) : xMet l yX_gate cX_gate 2 (some .int) rmX_gate_f D k a B0 w [.ref (a 0), .int q] eISE := by
  have hsX0 := hsX
  obtain ⟨hsF12, hsF13, hsF14⟩ := hsF
  refine x_ofW (by decide) rfl (fun p e s m args below meth c Q hQ htab hx hb hr hlk hml hown hts hB hG hK hS hXS ls hl => ?_)
  have hl : lv_has ls 2 [(0, .ref (a 0)), (1, .int q)] := hl
  have hown : s.vm.findClass RX = some m.cls := hown
  refine lv_aload_n hx hb dX_gate_0 rfl (lv_at hl 0 rfl) ?_
  exact x_VB (i := 0) (As := []) (rest := []) hQ htab hlk (kX_requireFlowRows_b hl9 hA hsX0 ⟨hsF12, hsF13, hsF14⟩ (by omega)) calX_requireFlowRows cvX_requireFlowRows mlX_165 hx hb hml hown hts hB hG hK hS hXS (by decide) hsX0 rfl ⟨by decide, by decide⟩ rfl hl.1 rfl (Nat.le_of_ble_eq_true rfl) dX_gate_1 ⟨by decide, by decide⟩ (by decide) (by decide)

abbrev rmX_gate_z : Room := { frames := 7, cells := 1, slots := 6, locals := 102 }
set_option maxRecDepth 100000 in
set_option maxHeartbeats 4000000 in
theorem kX_gate_z {l : Launch} (hl9 : l.stackTraces = false) {D : va_G} {k : ClassId × ClassId × ClassId} {a : Nat → Nat} {B0 : Nat} {w : Nat → va_E} (hA : gA B0 a) {nf : Nat} {fo : Nat → Int32} {ff : Nat → Int32} (hsX : sX k a w ) (hsF : sF k a w nf fo ff) (q : Int32) (h0 : 0 < nf) (hn : nf ≤ 8) (h1 : ¬ flR q) : xMet l yX_gate cX_gate 2 (some .int) rmX_gate_z D k a B0 w [.ref (a 0), .int q] eIAE := by
  have hsX0 := hsX
  obtain ⟨hsF12, hsF13, hsF14⟩ := hsF
  refine x_ofW (by decide) rfl (fun p e s m args below meth c Q hQ htab hx hb hr hlk hml hown hts hB hG hK hS hXS ls hl => ?_)
  have hl : lv_has ls 2 [(0, .ref (a 0)), (1, .int q)] := hl
  have hown : s.vm.findClass RX = some m.cls := hown
  refine lv_aload_n hx hb dX_gate_0 rfl (lv_at hl 0 rfl) ?_
  refine g_VvR (i := 0) (As := []) (rest := []) (kX_requireFlowRows hA hsX0 ⟨hsF12, hsF13, hsF14⟩ (by omega) (by omega)) calX_requireFlowRows cvX_requireFlowRows mlX_165 hx hb hml hown hts hB hG hK hS (by decide) hsX0 rfl ⟨by decide, by decide⟩ rfl hl.1 rfl (Nat.le_of_ble_eq_true rfl) dX_gate_1 ⟨by decide, by decide⟩ (fun H locs hG hS => ?_)
  refine lv_iload_n hx hb dX_gate_4 rfl (lv_at hl 1 rfl) ?_
  exact x_SB (As := [.int q]) (rest := []) hQ htab hlk (kX_requireFlow_b hl9 hA q (by assumption)) calX_requireFlow cvX_requireFlow mlX_156 hx hb hml hown hts hB hG hK hS hXS ⟨by decide, by decide⟩ rfl hl.1 rfl (Nat.le_of_ble_eq_true rfl) dX_gate_5 ⟨by decide, by decide⟩ (by decide) (by decide)

abbrev rmX_gate_m : Room := { frames := 7, cells := 1, slots := 6, locals := 102 }
set_option maxRecDepth 100000 in
set_option maxHeartbeats 4000000 in
theorem kX_gate_m {l : Launch} (hl9 : l.stackTraces = false) {D : va_G} {k : ClassId × ClassId × ClassId} {a : Nat → Nat} {B0 : Nat} {w : Nat → va_E} (hA : gA B0 a) {nf : Nat} {fo : Nat → Int32} {ff : Nat → Int32} (hsX : sX k a w ) (hsF : sF k a w nf fo ff) (q : Int32) (h0 : 0 < nf) (hn : nf ≤ 8) (h1 : flR q) (hm : ¬ q ≤ flAt fo ff nf 10000) : xMet l yX_gate cX_gate 2 (some .int) rmX_gate_m D k a B0 w [.ref (a 0), .int q] eUOE := by
  have hsX0 := hsX
  obtain ⟨hsF12, hsF13, hsF14⟩ := hsF
  refine x_ofW (by decide) rfl (fun p e s m args below meth c Q hQ htab hx hb hr hlk hml hown hts hB hG hK hS hXS ls hl => ?_)
  have hl : lv_has ls 2 [(0, .ref (a 0)), (1, .int q)] := hl
  have hown : s.vm.findClass RX = some m.cls := hown
  refine lv_aload_n hx hb dX_gate_0 rfl (lv_at hl 0 rfl) ?_
  refine g_VvR (i := 0) (As := []) (rest := []) (kX_requireFlowRows hA hsX0 ⟨hsF12, hsF13, hsF14⟩ (by omega) (by omega)) calX_requireFlowRows cvX_requireFlowRows mlX_165 hx hb hml hown hts hB hG hK hS (by decide) hsX0 rfl ⟨by decide, by decide⟩ rfl hl.1 rfl (Nat.le_of_ble_eq_true rfl) dX_gate_1 ⟨by decide, by decide⟩ (fun H locs hG hS => ?_)
  refine lv_iload_n hx hb dX_gate_4 rfl (lv_at hl 1 rfl) ?_
  refine g_SvR (As := [.int q]) (rest := []) (kX_requireFlow hA q (by assumption)) calX_requireFlow cvX_requireFlow mlX_156 hx hb hml hown hts hB hG hK hS ⟨by decide, by decide⟩ rfl hl.1 rfl (Nat.le_of_ble_eq_true rfl) dX_gate_5 ⟨by decide, by decide⟩ (fun H locs hG hS => ?_)
  refine lv_aload_n hx hb dX_gate_8 rfl (lv_at hl 0 rfl) ?_
  refine g_get hx hb hts inX hown hK hG 0 (by decide) hsX0 rfl 2 (by decide) lkX_26 rfl dX_gate_9 ?_
  refine lv_sipush (v := 10000) hx hb dX_gate_12 (by decide) ?_
  refine g_ViR (i := 12) (As := [.int 10000]) (rest := []) (kF_flowAt hA ⟨hsF12, hsF13, hsF14⟩ 10000 (by omega) (by omega)) calF_flowAt cvF_flowAt mlX_168 hx hb hml hown hts hB hG hK hS (by decide) hsF12 rfl ⟨by decide, by decide⟩ rfl hl.1 rfl (Nat.le_of_ble_eq_true rfl) dX_gate_15 ⟨by decide, by decide⟩ (fun H locs hG hS => ?_)
  refine lv_iload_n hx hb dX_gate_18 rfl (lv_at hl 1 rfl) ?_
  refine lv_icmp_ge (tgt := 32) hx hb dX_gate_19 (by decide) (fun c1 => ?_) (fun c1 => ?_)
  · exact absurd c1 hm
  · exact x_throw hQ hl9 xok_eUOE (show ((171 : Nat), "no opening lets so much through") ∈ xStr by decide +kernel) hx hb hml hown hts hG hK hS hXS hlk htab hl.1 dX_gate_22 dX_gate_25 dX_gate_26 dX_gate_28 dX_gate_31 (by decide) (by decide) (by decide) (by decide) (by decide) (by decide)

abbrev rmX_pattern : Room := { frames := 1, cells := 0, slots := 0, locals := 20 }
set_option maxRecDepth 100000 in
set_option maxHeartbeats 4000000 in
theorem kX_pattern {l : Launch} {D : va_G} {k : ClassId × ClassId × ClassId} {a : Nat → Nat} {B0 : Nat} {w : Nat → va_E} (hA : gA B0 a)  (x : Int32) (y : Int32) (h1 : szR x) (h2 : rngI y 0 100) : Met l yX_pattern (tbw yX_pattern cX_pattern 3 (some .int)) rmX_pattern (gPc D k a B0 w [.ref (a 0), .int x, .int y]) (va_Qi (roP ((x * (1000 + y) + 999) / 1000) w) (gB D k a) (gF B0)) 0 0 (gF B0) := by
  refine g_ofW (by decide) rfl (fun p e s m args below meth c Q hQ hx hb hr hlk hml hown hts hB hG hK hS ls hl => ?_)
  have hl : lv_has ls 3 [(0, .ref (a 0)), (1, .int x), (2, .int y)] := hl
  have hown : s.vm.findClass RX = some m.cls := hown
  refine lv_iload_n hx hb dX_pattern_0 rfl (lv_at hl 1 rfl) ?_
  refine g_SvR (As := [.int x]) (rest := []) (kX_requireSize hA x (by assumption)) calX_requireSize cvX_requireSize mlX_40 hx hb hml hown hts hB hG hK hS ⟨by decide, by decide⟩ rfl hl.1 rfl (Nat.le_of_ble_eq_true rfl) dX_pattern_1 ⟨by decide, by decide⟩ (fun H locs hG hS => ?_)
  refine lv_iload_n hx hb dX_pattern_4 rfl (lv_at hl 2 rfl) ?_
  refine lv_if_lt (tgt := 14) hx hb dX_pattern_5 (by decide) (fun c1 => ?_) (fun c1 => ?_)
  · exfalso
    first | exact absurd (by assumption) h2.1 | exact absurd (Int32.not_le.mp (by assumption)) h2.2
  · refine lv_iload_n hx hb dX_pattern_8 rfl (lv_at hl 2 rfl) ?_
    refine lv_bipush (v := 100) hx hb dX_pattern_9 (by decide) ?_
    refine lv_icmp_le (tgt := 24) hx hb dX_pattern_11 (by decide) (fun c2 => ?_) (fun c2 => ?_)
    · refine lv_iload_n hx hb dX_pattern_24 rfl (lv_at hl 1 rfl) ?_
      refine lv_sipush (v := 1000) hx hb dX_pattern_25 (by decide) ?_
      refine lv_iload_n hx hb dX_pattern_28 rfl (lv_at hl 2 rfl) ?_
      refine lv_iadd hx hb dX_pattern_29 ?_
      refine lv_imul hx hb dX_pattern_30 ?_
      refine lv_sipush (v := 999) hx hb dX_pattern_31 (by decide) ?_
      refine lv_iadd hx hb dX_pattern_34 ?_
      refine lv_sipush (v := 1000) hx hb dX_pattern_35 (by decide) ?_
      refine lv_idiv hx hb dX_pattern_38 (by decide) ?_
      exact g_iret hQ hx hb hr hlk hG hK hS (by decide) (by decide) ⟨by first | rfl | omega | (simp_all; done) | grind, rfl⟩ dX_pattern_39
    · exfalso
      first | exact absurd (by assumption) h2.1 | exact absurd (Int32.not_le.mp (by assumption)) h2.2

abbrev rmX_pattern_z : Room := { frames := 7, cells := 1, slots := 6, locals := 102 }
set_option maxRecDepth 100000 in
set_option maxHeartbeats 4000000 in
theorem kX_pattern_z {l : Launch} (hl9 : l.stackTraces = false) {D : va_G} {k : ClassId × ClassId × ClassId} {a : Nat → Nat} {B0 : Nat} {w : Nat → va_E} (hA : gA B0 a) (x : Int32) (y : Int32) (hz : ¬ (szR x ∧ rngI y 0 100)) : xMet l yX_pattern cX_pattern 3 (some .int) rmX_pattern_z D k a B0 w [.ref (a 0), .int x, .int y] eIAE := by
  refine x_ofW (by decide) rfl (fun p e s m args below meth c Q hQ htab hx hb hr hlk hml hown hts hB hG hK hS hXS ls hl => ?_)
  have hl : lv_has ls 3 [(0, .ref (a 0)), (1, .int x), (2, .int y)] := hl
  have hown : s.vm.findClass RX = some m.cls := hown
  refine lv_iload_n hx hb dX_pattern_0 rfl (lv_at hl 1 rfl) ?_
  by_cases hs1 : szR x
  · refine g_SvR (As := [.int x]) (rest := []) (kX_requireSize hA x (by assumption)) calX_requireSize cvX_requireSize mlX_40 hx hb hml hown hts hB hG hK hS ⟨by decide, by decide⟩ rfl hl.1 rfl (Nat.le_of_ble_eq_true rfl) dX_pattern_1 ⟨by decide, by decide⟩ (fun H locs hG hS => ?_)
    refine lv_iload_n hx hb dX_pattern_4 rfl (lv_at hl 2 rfl) ?_
    refine lv_if_lt (tgt := 14) hx hb dX_pattern_5 (by decide) (fun c2 => ?_) (fun c2 => ?_)
    · exact x_throw hQ hl9 xok_eIAE (show ((176 : Nat), "a shrinkage is 0 to 100 thousandths") ∈ xStr by decide +kernel) hx hb hml hown hts hG hK hS hXS hlk htab hl.1 dX_pattern_14 dX_pattern_17 dX_pattern_18 dX_pattern_20 dX_pattern_23 (by decide) (by decide) (by decide) (by decide) (by decide) (by decide)
    · refine lv_iload_n hx hb dX_pattern_8 rfl (lv_at hl 2 rfl) ?_
      refine lv_bipush (v := 100) hx hb dX_pattern_9 (by decide) ?_
      refine lv_icmp_le (tgt := 24) hx hb dX_pattern_11 (by decide) (fun c3 => ?_) (fun c3 => ?_)
      · exact absurd ⟨by assumption, by assumption, Int32.not_lt.mpr (by assumption)⟩ hz
      · exact x_throw hQ hl9 xok_eIAE (show ((176 : Nat), "a shrinkage is 0 to 100 thousandths") ∈ xStr by decide +kernel) hx hb hml hown hts hG hK hS hXS hlk htab hl.1 dX_pattern_14 dX_pattern_17 dX_pattern_18 dX_pattern_20 dX_pattern_23 (by decide) (by decide) (by decide) (by decide) (by decide) (by decide)
  · exact x_SB (As := [.int x]) (rest := []) hQ htab hlk (kX_requireSize_b hl9 hA x (by assumption)) calX_requireSize cvX_requireSize mlX_40 hx hb hml hown hts hB hG hK hS hXS ⟨by decide, by decide⟩ rfl hl.1 rfl (Nat.le_of_ble_eq_true rfl) dX_pattern_1 ⟨by decide, by decide⟩ (by decide) (by decide)

abbrev rmX_molding : Room := { frames := 1, cells := 0, slots := 0, locals := 22 }
set_option maxRecDepth 100000 in
set_option maxHeartbeats 4000000 in
theorem kX_molding {l : Launch} {D : va_G} {k : ClassId × ClassId × ClassId} {a : Nat → Nat} {B0 : Nat} {w : Nat → va_E} (hA : gA B0 a) {bw : Int32} {bd : Int32} {bu : Int32} {nt : Nat} {ns : Nat} {tw : Nat → Int32} {td : Nat → Int32} {sb : Nat → Int32} {sd : Nat → Int32} {su : Nat → Int32} (hsX : sX k a w ) (hsM : sM k a w bw bd bu nt ns tw td sb sd su) (x : Int32) (y : Int32) (h1 : wdR x) (h2 : wdR y) : Met l yX_molding (tbw yX_molding cX_molding 3 none) rmX_molding (gPc D k a B0 w [.ref (a 0), .int x, .int y]) (va_Qv (fun w1 => (sM k a w1 x y 0 0 0 tw td sb sd su) ∧ ∀ z, z < 15 ∨ 20 < z → w1 z = w z) (gB D k a) (gF B0)) 0 0 (gF B0) := by
  have hsX0 := hsX
  obtain ⟨hsM15, hsM16, hsM17, hsM18, hsM19, hsM20⟩ := hsM
  refine g_ofW (by decide) rfl (fun p e s m args below meth c Q hQ hx hb hr hlk hml hown hts hB hG hK hS ls hl => ?_)
  have hl : lv_has ls 3 [(0, .ref (a 0)), (1, .int x), (2, .int y)] := hl
  have hown : s.vm.findClass RX = some m.cls := hown
  have hfr0 : ∀ z, z < 15 ∨ 20 < z → w z = w z := fun _ _ => rfl
  refine lv_iload_n hx hb dX_molding_0 rfl (lv_at hl 1 rfl) ?_
  refine g_SvR (As := [.int x]) (rest := []) (kX_requireMoldingSize hA x (by assumption)) calX_requireMoldingSize cvX_requireMoldingSize mlX_178 hx hb hml hown hts hB hG hK hS ⟨by decide, by decide⟩ rfl hl.1 rfl (Nat.le_of_ble_eq_true rfl) dX_molding_1 ⟨by decide, by decide⟩ (fun H locs hG hS => ?_)
  refine lv_iload_n hx hb dX_molding_4 rfl (lv_at hl 2 rfl) ?_
  refine g_SvR (As := [.int y]) (rest := []) (kX_requireMoldingSize hA y (by assumption)) calX_requireMoldingSize cvX_requireMoldingSize mlX_178 hx hb hml hown hts hB hG hK hS ⟨by decide, by decide⟩ rfl hl.1 rfl (Nat.le_of_ble_eq_true rfl) dX_molding_5 ⟨by decide, by decide⟩ (fun H locs hG hS => ?_)
  refine lv_aload_n hx hb dX_molding_8 rfl (lv_at hl 0 rfl) ?_
  refine g_get hx hb hts inX hown hK hG 0 (by decide) hsX0 rfl 3 (by decide) lkX_33 rfl dX_molding_9 ?_
  refine lv_iload_n hx hb dX_molding_12 rfl (lv_at hl 1 rfl) ?_
  refine lv_iload_n hx hb dX_molding_13 rfl (lv_at hl 2 rfl) ?_
  refine g_Vv (i := 15) (As := [.int x, .int y]) (rest := []) (kM_clearTo hA ⟨hsM15, hsM16, hsM17, hsM18, hsM19, hsM20⟩ x y) calM_clearTo cvM_clearTo mlX_181 hx hb hml hown hts hB hG hK hS (by decide) hsM15 rfl ⟨by decide, by decide⟩ rfl hl.1 rfl (Nat.le_of_ble_eq_true rfl) dX_molding_14 ⟨by decide, by decide⟩ (fun w2 H locs hp3 hG hS => ?_)
  obtain ⟨⟨h4, h5, h6, h7, h8, h9⟩, hfr11⟩ := hp3
  have h12 : w2 0 = .inr (0, [.ref (a 1), .ref (a 9), .ref (a 12), .ref (a 15)]) := (hfr11 0 (by omega)).trans hsX0
  have hfr13 : ∀ z, z < 15 ∨ 20 < z → w2 z = w z := fun z hz => (hfr11 z (by omega)).trans (hfr0 z hz)
  exact g_vret hQ hx hb hr hlk hG hK hS (by decide) (by decide) ⟨⟨h4, h5, h6, h7, h8, h9⟩, hfr13⟩ dX_molding_17

abbrev rmX_molding_z : Room := { frames := 7, cells := 1, slots := 6, locals := 102 }
set_option maxRecDepth 100000 in
set_option maxHeartbeats 4000000 in
theorem kX_molding_z {l : Launch} (hl9 : l.stackTraces = false) {D : va_G} {k : ClassId × ClassId × ClassId} {a : Nat → Nat} {B0 : Nat} {w : Nat → va_E} (hA : gA B0 a) {bw : Int32} {bd : Int32} {bu : Int32} {nt : Nat} {ns : Nat} {tw : Nat → Int32} {td : Nat → Int32} {sb : Nat → Int32} {sd : Nat → Int32} {su : Nat → Int32} (hsX : sX k a w ) (hsM : sM k a w bw bd bu nt ns tw td sb sd su) (x : Int32) (y : Int32) (hz : ¬ (wdR x ∧ wdR y)) : xMet l yX_molding cX_molding 3 none rmX_molding_z D k a B0 w [.ref (a 0), .int x, .int y] eIAE := by
  have hsX0 := hsX
  obtain ⟨hsM15, hsM16, hsM17, hsM18, hsM19, hsM20⟩ := hsM
  refine x_ofW (by decide) rfl (fun p e s m args below meth c Q hQ htab hx hb hr hlk hml hown hts hB hG hK hS hXS ls hl => ?_)
  have hl : lv_has ls 3 [(0, .ref (a 0)), (1, .int x), (2, .int y)] := hl
  have hown : s.vm.findClass RX = some m.cls := hown
  refine lv_iload_n hx hb dX_molding_0 rfl (lv_at hl 1 rfl) ?_
  by_cases hs1 : wdR x
  · refine g_SvR (As := [.int x]) (rest := []) (kX_requireMoldingSize hA x (by assumption)) calX_requireMoldingSize cvX_requireMoldingSize mlX_178 hx hb hml hown hts hB hG hK hS ⟨by decide, by decide⟩ rfl hl.1 rfl (Nat.le_of_ble_eq_true rfl) dX_molding_1 ⟨by decide, by decide⟩ (fun H locs hG hS => ?_)
    refine lv_iload_n hx hb dX_molding_4 rfl (lv_at hl 2 rfl) ?_
    by_cases hs2 : wdR y
    · refine g_SvR (As := [.int y]) (rest := []) (kX_requireMoldingSize hA y (by assumption)) calX_requireMoldingSize cvX_requireMoldingSize mlX_178 hx hb hml hown hts hB hG hK hS ⟨by decide, by decide⟩ rfl hl.1 rfl (Nat.le_of_ble_eq_true rfl) dX_molding_5 ⟨by decide, by decide⟩ (fun H locs hG hS => ?_)
      exact absurd ⟨by assumption, by assumption⟩ hz
    · exact x_SB (As := [.int y]) (rest := []) hQ htab hlk (kX_requireMoldingSize_b hl9 hA y (by assumption)) calX_requireMoldingSize cvX_requireMoldingSize mlX_178 hx hb hml hown hts hB hG hK hS hXS ⟨by decide, by decide⟩ rfl hl.1 rfl (Nat.le_of_ble_eq_true rfl) dX_molding_5 ⟨by decide, by decide⟩ (by decide) (by decide)
  · exact x_SB (As := [.int x]) (rest := []) hQ htab hlk (kX_requireMoldingSize_b hl9 hA x (by assumption)) calX_requireMoldingSize cvX_requireMoldingSize mlX_178 hx hb hml hown hts hB hG hK hS hXS ⟨by decide, by decide⟩ rfl hl.1 rfl (Nat.le_of_ble_eq_true rfl) dX_molding_1 ⟨by decide, by decide⟩ (by decide) (by decide)

abbrev rmX_pack_o : Room := { frames := 2, cells := 0, slots := 0, locals := 45 }
set_option maxRecDepth 100000 in
set_option maxHeartbeats 4000000 in
theorem kX_pack_o {l : Launch} {D : va_G} {k : ClassId × ClassId × ClassId} {a : Nat → Nat} {B0 : Nat} {w : Nat → va_E} (hA : gA B0 a) {bw : Int32} {bd : Int32} {bu : Int32} {nt : Nat} {ns : Nat} {tw : Nat → Int32} {td : Nat → Int32} {sb : Nat → Int32} {sd : Nat → Int32} {su : Nat → Int32} (hsX : sX k a w ) (hsM : sM k a w bw bd bu nt ns tw td sb sd su) (x : Int32) (y : Int32) (i : Nat) (hi : i < ns) (hns : ns ≤ nt) (hnt : nt < 40) (h1 : wdR x) (h2 : wdR y) (hsh : shF bw bd bu ns sd su x y ns 0 = nI i) : Met l yX_pack (tbw yX_pack cX_pack 4 (some .int)) rmX_pack_o (gPc D k a B0 w [.ref (a 0), .int x, .int y]) (va_Qi (fun rr9 w1 => rr9 = (nI nt) ∧ (sM k a w1 bw bd bu (nt + 1) ns (upd tw nt (su i)) (upd td nt (sb i)) sb sd (upd su i (su i + x))) ∧ ∀ z, z < 15 ∨ 20 < z → w1 z = w z) (gB D k a) (gF B0)) 0 0 (gF B0) := by
  have hsX0 := hsX
  obtain ⟨hsM15, hsM16, hsM17, hsM18, hsM19, hsM20⟩ := hsM
  refine g_ofW (by decide) rfl (fun p e s m args below meth c Q hQ hx hb hr hlk hml hown hts hB hG hK hS ls hl => ?_)
  have hl : lv_has ls 4 [(0, .ref (a 0)), (1, .int x), (2, .int y)] := hl
  have hown : s.vm.findClass RX = some m.cls := hown
  have hfr0 : ∀ z, z < 15 ∨ 20 < z → w z = w z := fun _ _ => rfl
  refine lv_aload_n hx hb dX_pack_0 rfl (lv_at hl 0 rfl) ?_
  refine g_get hx hb hts inX hown hK hG 0 (by decide) hsX0 rfl 3 (by decide) lkX_33 rfl dX_pack_1 ?_
  refine g_ViR (i := 15) (As := []) (rest := []) (kM_isFull hA ⟨hsM15, hsM16, hsM17, hsM18, hsM19, hsM20⟩ (by omega)) calM_isFull cvM_isFull mlX_184 hx hb hml hown hts hB hG hK hS (by decide) hsM15 rfl ⟨by decide, by decide⟩ rfl hl.1 rfl (Nat.le_of_ble_eq_true rfl) dX_pack_4 ⟨by decide, by decide⟩ (fun H locs hG hS => ?_)
  refine lb_if_eq (tgt := 20) hx hb dX_pack_7 (by decide) (fun c1 => ?_) (fun c1 => ?_)
  · refine lv_iload_n hx hb dX_pack_20 rfl (lv_at hl 1 rfl) ?_
    refine g_SvR (As := [.int x]) (rest := []) (kX_requireMoldingSize hA x (by assumption)) calX_requireMoldingSize cvX_requireMoldingSize mlX_178 hx hb hml hown hts hB hG hK hS ⟨by decide, by decide⟩ rfl hl.1 rfl (Nat.le_of_ble_eq_true rfl) dX_pack_21 ⟨by decide, by decide⟩ (fun H locs hG hS => ?_)
    refine lv_iload_n hx hb dX_pack_24 rfl (lv_at hl 2 rfl) ?_
    refine g_SvR (As := [.int y]) (rest := []) (kX_requireMoldingSize hA y (by assumption)) calX_requireMoldingSize cvX_requireMoldingSize mlX_178 hx hb hml hown hts hB hG hK hS ⟨by decide, by decide⟩ rfl hl.1 rfl (Nat.le_of_ble_eq_true rfl) dX_pack_25 ⟨by decide, by decide⟩ (fun H locs hG hS => ?_)
    refine lv_aload_n hx hb dX_pack_28 rfl (lv_at hl 0 rfl) ?_
    refine g_get hx hb hts inX hown hK hG 0 (by decide) hsX0 rfl 3 (by decide) lkX_33 rfl dX_pack_29 ?_
    refine lv_iload_n hx hb dX_pack_32 rfl (lv_at hl 1 rfl) ?_
    refine lv_iload_n hx hb dX_pack_33 rfl (lv_at hl 2 rfl) ?_
    refine g_ViR (i := 15) (As := [.int x, .int y]) (rest := []) (kM_shelfFor hA ⟨hsM15, hsM16, hsM17, hsM18, hsM19, hsM20⟩ x y (by omega)) calM_shelfFor cvM_shelfFor mlX_187 hx hb hml hown hts hB hG hK hS (by decide) hsM15 rfl ⟨by decide, by decide⟩ rfl hl.1 rfl (Nat.le_of_ble_eq_true rfl) dX_pack_34 ⟨by decide, by decide⟩ (fun H locs hG hS => ?_)
    rw [hsh]
    refine lv_istore_n (lv' := [(3, .int (nI i)), (0, .ref (a 0)), (1, .int x), (2, .int y)]) hx hb dX_pack_37 rfl hl (by decide) rfl (fun ls hl => ?_)
    refine lv_iload_n hx hb dX_pack_38 rfl (lv_at hl 0 rfl) ?_
    refine lv_iconst (v := (-1)) hx hb dX_pack_39 (by decide) ?_
    refine lv_icmp_ne (tgt := 53) hx hb dX_pack_40 (by decide) (fun c2 => ?_) (fun c2 => ?_)
    · refine lv_aload_n hx hb dX_pack_53 rfl (lv_at hl 1 rfl) ?_
      refine g_get hx hb hts inX hown hK hG 0 (by decide) hsX0 rfl 3 (by decide) lkX_33 rfl dX_pack_54 ?_
      refine lv_iload_n hx hb dX_pack_57 rfl (lv_at hl 0 rfl) ?_
      refine lv_iload_n hx hb dX_pack_58 rfl (lv_at hl 2 rfl) ?_
      refine lv_iload_n hx hb dX_pack_59 rfl (lv_at hl 3 rfl) ?_
      refine g_Vi (i := 15) (As := [.int (nI i), .int x, .int y]) (rest := []) (kM_putOn_o hA ⟨hsM15, hsM16, hsM17, hsM18, hsM19, hsM20⟩ i x y (by omega) (by omega) (by omega)) calM_putOn cvM_putOn mlX_192 hx hb hml hown hts hB hG hK hS (by decide) hsM15 rfl ⟨by decide, by decide⟩ rfl hl.1 rfl (Nat.le_of_ble_eq_true rfl) dX_pack_60 ⟨by decide, by decide⟩ (fun r3 w4 H locs hp5 hG hS => ?_)
      obtain ⟨er12, ⟨h6, h7, h8, h9, h10, h11⟩, hfr13⟩ := hp5
      have h14 : w4 0 = .inr (0, [.ref (a 1), .ref (a 9), .ref (a 12), .ref (a 15)]) := (hfr13 0 (by omega)).trans hsX0
      have hfr15 : ∀ z, z < 15 ∨ 20 < z → w4 z = w z := fun z hz => (hfr13 z (by omega)).trans (hfr0 z hz)
      rw [er12]
      exact g_iret hQ hx hb hr hlk hG hK hS (by decide) (by decide) ⟨by first | rfl | omega | (simp_all; done) | grind, ⟨h6, h7, h8, h9, h10, h11⟩, hfr15⟩ dX_pack_63
    · exfalso
      exact absurd (by assumption) (nI_nm1 (i := i) (by omega))
  · exfalso
    first | omega | contradiction | (simp_all; done) | grind

abbrev rmX_pack_n : Room := { frames := 2, cells := 0, slots := 0, locals := 45 }
set_option maxRecDepth 100000 in
set_option maxHeartbeats 4000000 in
theorem kX_pack_n {l : Launch} {D : va_G} {k : ClassId × ClassId × ClassId} {a : Nat → Nat} {B0 : Nat} {w : Nat → va_E} (hA : gA B0 a) {bw : Int32} {bd : Int32} {bu : Int32} {nt : Nat} {ns : Nat} {tw : Nat → Int32} {td : Nat → Int32} {sb : Nat → Int32} {sd : Nat → Int32} {su : Nat → Int32} (hsX : sX k a w ) (hsM : sM k a w bw bd bu nt ns tw td sb sd su) (x : Int32) (y : Int32) (hns : ns ≤ nt) (hnt : nt < 40) (h1 : wdR x) (h2 : wdR y) (hsh : shF bw bd bu ns sd su x y ns 0 = nI ns) : Met l yX_pack (tbw yX_pack cX_pack 4 (some .int)) rmX_pack_n (gPc D k a B0 w [.ref (a 0), .int x, .int y]) (va_Qi (fun rr9 w1 => rr9 = (nI nt) ∧ (sM k a w1 bw bd (bu + y) (nt + 1) (ns + 1) (upd tw nt (upd su ns 0 ns)) (upd td nt (upd sb ns bu ns)) (upd sb ns bu) (upd sd ns y) (upd (upd su ns 0) ns (upd su ns 0 ns + x))) ∧ ∀ z, z < 15 ∨ 20 < z → w1 z = w z) (gB D k a) (gF B0)) 0 0 (gF B0) := by
  have hsX0 := hsX
  obtain ⟨hsM15, hsM16, hsM17, hsM18, hsM19, hsM20⟩ := hsM
  refine g_ofW (by decide) rfl (fun p e s m args below meth c Q hQ hx hb hr hlk hml hown hts hB hG hK hS ls hl => ?_)
  have hl : lv_has ls 4 [(0, .ref (a 0)), (1, .int x), (2, .int y)] := hl
  have hown : s.vm.findClass RX = some m.cls := hown
  have hfr0 : ∀ z, z < 15 ∨ 20 < z → w z = w z := fun _ _ => rfl
  refine lv_aload_n hx hb dX_pack_0 rfl (lv_at hl 0 rfl) ?_
  refine g_get hx hb hts inX hown hK hG 0 (by decide) hsX0 rfl 3 (by decide) lkX_33 rfl dX_pack_1 ?_
  refine g_ViR (i := 15) (As := []) (rest := []) (kM_isFull hA ⟨hsM15, hsM16, hsM17, hsM18, hsM19, hsM20⟩ (by omega)) calM_isFull cvM_isFull mlX_184 hx hb hml hown hts hB hG hK hS (by decide) hsM15 rfl ⟨by decide, by decide⟩ rfl hl.1 rfl (Nat.le_of_ble_eq_true rfl) dX_pack_4 ⟨by decide, by decide⟩ (fun H locs hG hS => ?_)
  refine lb_if_eq (tgt := 20) hx hb dX_pack_7 (by decide) (fun c1 => ?_) (fun c1 => ?_)
  · refine lv_iload_n hx hb dX_pack_20 rfl (lv_at hl 1 rfl) ?_
    refine g_SvR (As := [.int x]) (rest := []) (kX_requireMoldingSize hA x (by assumption)) calX_requireMoldingSize cvX_requireMoldingSize mlX_178 hx hb hml hown hts hB hG hK hS ⟨by decide, by decide⟩ rfl hl.1 rfl (Nat.le_of_ble_eq_true rfl) dX_pack_21 ⟨by decide, by decide⟩ (fun H locs hG hS => ?_)
    refine lv_iload_n hx hb dX_pack_24 rfl (lv_at hl 2 rfl) ?_
    refine g_SvR (As := [.int y]) (rest := []) (kX_requireMoldingSize hA y (by assumption)) calX_requireMoldingSize cvX_requireMoldingSize mlX_178 hx hb hml hown hts hB hG hK hS ⟨by decide, by decide⟩ rfl hl.1 rfl (Nat.le_of_ble_eq_true rfl) dX_pack_25 ⟨by decide, by decide⟩ (fun H locs hG hS => ?_)
    refine lv_aload_n hx hb dX_pack_28 rfl (lv_at hl 0 rfl) ?_
    refine g_get hx hb hts inX hown hK hG 0 (by decide) hsX0 rfl 3 (by decide) lkX_33 rfl dX_pack_29 ?_
    refine lv_iload_n hx hb dX_pack_32 rfl (lv_at hl 1 rfl) ?_
    refine lv_iload_n hx hb dX_pack_33 rfl (lv_at hl 2 rfl) ?_
    refine g_ViR (i := 15) (As := [.int x, .int y]) (rest := []) (kM_shelfFor hA ⟨hsM15, hsM16, hsM17, hsM18, hsM19, hsM20⟩ x y (by omega)) calM_shelfFor cvM_shelfFor mlX_187 hx hb hml hown hts hB hG hK hS (by decide) hsM15 rfl ⟨by decide, by decide⟩ rfl hl.1 rfl (Nat.le_of_ble_eq_true rfl) dX_pack_34 ⟨by decide, by decide⟩ (fun H locs hG hS => ?_)
    rw [hsh]
    refine lv_istore_n (lv' := [(3, .int (nI ns)), (0, .ref (a 0)), (1, .int x), (2, .int y)]) hx hb dX_pack_37 rfl hl (by decide) rfl (fun ls hl => ?_)
    refine lv_iload_n hx hb dX_pack_38 rfl (lv_at hl 0 rfl) ?_
    refine lv_iconst (v := (-1)) hx hb dX_pack_39 (by decide) ?_
    refine lv_icmp_ne (tgt := 53) hx hb dX_pack_40 (by decide) (fun c2 => ?_) (fun c2 => ?_)
    · refine lv_aload_n hx hb dX_pack_53 rfl (lv_at hl 1 rfl) ?_
      refine g_get hx hb hts inX hown hK hG 0 (by decide) hsX0 rfl 3 (by decide) lkX_33 rfl dX_pack_54 ?_
      refine lv_iload_n hx hb dX_pack_57 rfl (lv_at hl 0 rfl) ?_
      refine lv_iload_n hx hb dX_pack_58 rfl (lv_at hl 2 rfl) ?_
      refine lv_iload_n hx hb dX_pack_59 rfl (lv_at hl 3 rfl) ?_
      refine g_Vi (i := 15) (As := [.int (nI ns), .int x, .int y]) (rest := []) (kM_putOn_n hA ⟨hsM15, hsM16, hsM17, hsM18, hsM19, hsM20⟩ ns x y (by omega) (by omega) (by omega)) calM_putOn cvM_putOn mlX_192 hx hb hml hown hts hB hG hK hS (by decide) hsM15 rfl ⟨by decide, by decide⟩ rfl hl.1 rfl (Nat.le_of_ble_eq_true rfl) dX_pack_60 ⟨by decide, by decide⟩ (fun r3 w4 H locs hp5 hG hS => ?_)
      obtain ⟨er12, ⟨h6, h7, h8, h9, h10, h11⟩, hfr13⟩ := hp5
      have h14 : w4 0 = .inr (0, [.ref (a 1), .ref (a 9), .ref (a 12), .ref (a 15)]) := (hfr13 0 (by omega)).trans hsX0
      have hfr15 : ∀ z, z < 15 ∨ 20 < z → w4 z = w z := fun z hz => (hfr13 z (by omega)).trans (hfr0 z hz)
      rw [er12]
      exact g_iret hQ hx hb hr hlk hG hK hS (by decide) (by decide) ⟨by first | rfl | omega | (simp_all; done) | grind, ⟨h6, h7, h8, h9, h10, h11⟩, hfr15⟩ dX_pack_63
    · exfalso
      exact absurd (by assumption) (nI_nm1 (i := ns) (by omega))
  · exfalso
    first | omega | contradiction | (simp_all; done) | grind

abbrev rmX_pack_f : Room := { frames := 7, cells := 1, slots := 6, locals := 102 }
set_option maxRecDepth 100000 in
set_option maxHeartbeats 4000000 in
theorem kX_pack_f {l : Launch} (hl9 : l.stackTraces = false) {D : va_G} {k : ClassId × ClassId × ClassId} {a : Nat → Nat} {B0 : Nat} {w : Nat → va_E} (hA : gA B0 a) {bw : Int32} {bd : Int32} {bu : Int32} {nt : Nat} {ns : Nat} {tw : Nat → Int32} {td : Nat → Int32} {sb : Nat → Int32} {sd : Nat → Int32} {su : Nat → Int32} (hsX : sX k a w ) (hsM : sM k a w bw bd bu nt ns tw td sb sd su) (x : Int32) (y : Int32) (hnt : nt = 40) : xMet l yX_pack cX_pack 4 (some .int) rmX_pack_f D k a B0 w [.ref (a 0), .int x, .int y] eISE := by
  have hsX0 := hsX
  obtain ⟨hsM15, hsM16, hsM17, hsM18, hsM19, hsM20⟩ := hsM
  refine x_ofW (by decide) rfl (fun p e s m args below meth c Q hQ htab hx hb hr hlk hml hown hts hB hG hK hS hXS ls hl => ?_)
  have hl : lv_has ls 4 [(0, .ref (a 0)), (1, .int x), (2, .int y)] := hl
  have hown : s.vm.findClass RX = some m.cls := hown
  refine lv_aload_n hx hb dX_pack_0 rfl (lv_at hl 0 rfl) ?_
  refine g_get hx hb hts inX hown hK hG 0 (by decide) hsX0 rfl 3 (by decide) lkX_33 rfl dX_pack_1 ?_
  refine g_ViR (i := 15) (As := []) (rest := []) (kM_isFull hA ⟨hsM15, hsM16, hsM17, hsM18, hsM19, hsM20⟩ (by omega)) calM_isFull cvM_isFull mlX_184 hx hb hml hown hts hB hG hK hS (by decide) hsM15 rfl ⟨by decide, by decide⟩ rfl hl.1 rfl (Nat.le_of_ble_eq_true rfl) dX_pack_4 ⟨by decide, by decide⟩ (fun H locs hG hS => ?_)
  refine lb_if_eq (tgt := 20) hx hb dX_pack_7 (by decide) (fun c1 => ?_) (fun c1 => ?_)
  · exact absurd (by omega) c1
  · exact x_throw hQ hl9 xok_eISE (show ((185 : Nat), "there are 40 things") ∈ xStr by decide +kernel) hx hb hml hown hts hG hK hS hXS hlk htab hl.1 dX_pack_10 dX_pack_13 dX_pack_14 dX_pack_16 dX_pack_19 (by decide) (by decide) (by decide) (by decide) (by decide) (by decide)

abbrev rmX_pack_z : Room := { frames := 7, cells := 1, slots := 6, locals := 102 }
set_option maxRecDepth 100000 in
set_option maxHeartbeats 4000000 in
theorem kX_pack_z {l : Launch} (hl9 : l.stackTraces = false) {D : va_G} {k : ClassId × ClassId × ClassId} {a : Nat → Nat} {B0 : Nat} {w : Nat → va_E} (hA : gA B0 a) {bw : Int32} {bd : Int32} {bu : Int32} {nt : Nat} {ns : Nat} {tw : Nat → Int32} {td : Nat → Int32} {sb : Nat → Int32} {sd : Nat → Int32} {su : Nat → Int32} (hsX : sX k a w ) (hsM : sM k a w bw bd bu nt ns tw td sb sd su) (x : Int32) (y : Int32) (hnt : nt < 40) (hz : ¬ (wdR x ∧ wdR y)) : xMet l yX_pack cX_pack 4 (some .int) rmX_pack_z D k a B0 w [.ref (a 0), .int x, .int y] eIAE := by
  have hsX0 := hsX
  obtain ⟨hsM15, hsM16, hsM17, hsM18, hsM19, hsM20⟩ := hsM
  refine x_ofW (by decide) rfl (fun p e s m args below meth c Q hQ htab hx hb hr hlk hml hown hts hB hG hK hS hXS ls hl => ?_)
  have hl : lv_has ls 4 [(0, .ref (a 0)), (1, .int x), (2, .int y)] := hl
  have hown : s.vm.findClass RX = some m.cls := hown
  refine lv_aload_n hx hb dX_pack_0 rfl (lv_at hl 0 rfl) ?_
  refine g_get hx hb hts inX hown hK hG 0 (by decide) hsX0 rfl 3 (by decide) lkX_33 rfl dX_pack_1 ?_
  refine g_ViR (i := 15) (As := []) (rest := []) (kM_isFull hA ⟨hsM15, hsM16, hsM17, hsM18, hsM19, hsM20⟩ (by omega)) calM_isFull cvM_isFull mlX_184 hx hb hml hown hts hB hG hK hS (by decide) hsM15 rfl ⟨by decide, by decide⟩ rfl hl.1 rfl (Nat.le_of_ble_eq_true rfl) dX_pack_4 ⟨by decide, by decide⟩ (fun H locs hG hS => ?_)
  refine lb_if_eq (tgt := 20) hx hb dX_pack_7 (by decide) (fun c1 => ?_) (fun c1 => ?_)
  · refine lv_iload_n hx hb dX_pack_20 rfl (lv_at hl 1 rfl) ?_
    by_cases hs2 : wdR x
    · refine g_SvR (As := [.int x]) (rest := []) (kX_requireMoldingSize hA x (by assumption)) calX_requireMoldingSize cvX_requireMoldingSize mlX_178 hx hb hml hown hts hB hG hK hS ⟨by decide, by decide⟩ rfl hl.1 rfl (Nat.le_of_ble_eq_true rfl) dX_pack_21 ⟨by decide, by decide⟩ (fun H locs hG hS => ?_)
      refine lv_iload_n hx hb dX_pack_24 rfl (lv_at hl 2 rfl) ?_
      by_cases hs3 : wdR y
      · refine g_SvR (As := [.int y]) (rest := []) (kX_requireMoldingSize hA y (by assumption)) calX_requireMoldingSize cvX_requireMoldingSize mlX_178 hx hb hml hown hts hB hG hK hS ⟨by decide, by decide⟩ rfl hl.1 rfl (Nat.le_of_ble_eq_true rfl) dX_pack_25 ⟨by decide, by decide⟩ (fun H locs hG hS => ?_)
        exact absurd ⟨by assumption, by assumption⟩ hz
      · exact x_SB (As := [.int y]) (rest := []) hQ htab hlk (kX_requireMoldingSize_b hl9 hA y (by assumption)) calX_requireMoldingSize cvX_requireMoldingSize mlX_178 hx hb hml hown hts hB hG hK hS hXS ⟨by decide, by decide⟩ rfl hl.1 rfl (Nat.le_of_ble_eq_true rfl) dX_pack_25 ⟨by decide, by decide⟩ (by decide) (by decide)
    · exact x_SB (As := [.int x]) (rest := []) hQ htab hlk (kX_requireMoldingSize_b hl9 hA x (by assumption)) calX_requireMoldingSize cvX_requireMoldingSize mlX_178 hx hb hml hown hts hB hG hK hS hXS ⟨by decide, by decide⟩ rfl hl.1 rfl (Nat.le_of_ble_eq_true rfl) dX_pack_21 ⟨by decide, by decide⟩ (by decide) (by decide)
  · exfalso
    first | omega | contradiction | (simp_all; done) | grind

abbrev rmX_pack_m : Room := { frames := 7, cells := 1, slots := 6, locals := 102 }
set_option maxRecDepth 100000 in
set_option maxHeartbeats 4000000 in
theorem kX_pack_m {l : Launch} (hl9 : l.stackTraces = false) {D : va_G} {k : ClassId × ClassId × ClassId} {a : Nat → Nat} {B0 : Nat} {w : Nat → va_E} (hA : gA B0 a) {bw : Int32} {bd : Int32} {bu : Int32} {nt : Nat} {ns : Nat} {tw : Nat → Int32} {td : Nat → Int32} {sb : Nat → Int32} {sd : Nat → Int32} {su : Nat → Int32} (hsX : sX k a w ) (hsM : sM k a w bw bd bu nt ns tw td sb sd su) (x : Int32) (y : Int32) (hns : ns ≤ nt) (hnt : nt < 40) (h1 : wdR x) (h2 : wdR y) (hsh : shF bw bd bu ns sd su x y ns 0 = -1) : xMet l yX_pack cX_pack 4 (some .int) rmX_pack_m D k a B0 w [.ref (a 0), .int x, .int y] eUOE := by
  have hsX0 := hsX
  obtain ⟨hsM15, hsM16, hsM17, hsM18, hsM19, hsM20⟩ := hsM
  refine x_ofW (by decide) rfl (fun p e s m args below meth c Q hQ htab hx hb hr hlk hml hown hts hB hG hK hS hXS ls hl => ?_)
  have hl : lv_has ls 4 [(0, .ref (a 0)), (1, .int x), (2, .int y)] := hl
  have hown : s.vm.findClass RX = some m.cls := hown
  refine lv_aload_n hx hb dX_pack_0 rfl (lv_at hl 0 rfl) ?_
  refine g_get hx hb hts inX hown hK hG 0 (by decide) hsX0 rfl 3 (by decide) lkX_33 rfl dX_pack_1 ?_
  refine g_ViR (i := 15) (As := []) (rest := []) (kM_isFull hA ⟨hsM15, hsM16, hsM17, hsM18, hsM19, hsM20⟩ (by omega)) calM_isFull cvM_isFull mlX_184 hx hb hml hown hts hB hG hK hS (by decide) hsM15 rfl ⟨by decide, by decide⟩ rfl hl.1 rfl (Nat.le_of_ble_eq_true rfl) dX_pack_4 ⟨by decide, by decide⟩ (fun H locs hG hS => ?_)
  refine lb_if_eq (tgt := 20) hx hb dX_pack_7 (by decide) (fun c1 => ?_) (fun c1 => ?_)
  · refine lv_iload_n hx hb dX_pack_20 rfl (lv_at hl 1 rfl) ?_
    refine g_SvR (As := [.int x]) (rest := []) (kX_requireMoldingSize hA x (by assumption)) calX_requireMoldingSize cvX_requireMoldingSize mlX_178 hx hb hml hown hts hB hG hK hS ⟨by decide, by decide⟩ rfl hl.1 rfl (Nat.le_of_ble_eq_true rfl) dX_pack_21 ⟨by decide, by decide⟩ (fun H locs hG hS => ?_)
    refine lv_iload_n hx hb dX_pack_24 rfl (lv_at hl 2 rfl) ?_
    refine g_SvR (As := [.int y]) (rest := []) (kX_requireMoldingSize hA y (by assumption)) calX_requireMoldingSize cvX_requireMoldingSize mlX_178 hx hb hml hown hts hB hG hK hS ⟨by decide, by decide⟩ rfl hl.1 rfl (Nat.le_of_ble_eq_true rfl) dX_pack_25 ⟨by decide, by decide⟩ (fun H locs hG hS => ?_)
    refine lv_aload_n hx hb dX_pack_28 rfl (lv_at hl 0 rfl) ?_
    refine g_get hx hb hts inX hown hK hG 0 (by decide) hsX0 rfl 3 (by decide) lkX_33 rfl dX_pack_29 ?_
    refine lv_iload_n hx hb dX_pack_32 rfl (lv_at hl 1 rfl) ?_
    refine lv_iload_n hx hb dX_pack_33 rfl (lv_at hl 2 rfl) ?_
    refine g_ViR (i := 15) (As := [.int x, .int y]) (rest := []) (kM_shelfFor hA ⟨hsM15, hsM16, hsM17, hsM18, hsM19, hsM20⟩ x y (by omega)) calM_shelfFor cvM_shelfFor mlX_187 hx hb hml hown hts hB hG hK hS (by decide) hsM15 rfl ⟨by decide, by decide⟩ rfl hl.1 rfl (Nat.le_of_ble_eq_true rfl) dX_pack_34 ⟨by decide, by decide⟩ (fun H locs hG hS => ?_)
    refine lv_istore_n (lv' := [(3, .int (shF bw bd bu ns sd su x y ns 0)), (0, .ref (a 0)), (1, .int x), (2, .int y)]) hx hb dX_pack_37 rfl hl (by decide) rfl (fun ls hl => ?_)
    refine lv_iload_n hx hb dX_pack_38 rfl (lv_at hl 0 rfl) ?_
    refine lv_iconst (v := (-1)) hx hb dX_pack_39 (by decide) ?_
    refine lv_icmp_ne (tgt := 53) hx hb dX_pack_40 (by decide) (fun c2 => ?_) (fun c2 => ?_)
    · exact absurd hsh c2
    · exact x_throw hQ hl9 xok_eUOE (show ((190 : Nat), "the thing does not fit") ∈ xStr by decide +kernel) hx hb hml hown hts hG hK hS hXS hlk htab hl.1 dX_pack_43 dX_pack_46 dX_pack_47 dX_pack_49 dX_pack_52 (by decide) (by decide) (by decide) (by decide) (by decide) (by decide)
  · exfalso
    first | omega | contradiction | (simp_all; done) | grind

abbrev rmX_packed : Room := { frames := 1, cells := 0, slots := 0, locals := 21 }
set_option maxRecDepth 100000 in
set_option maxHeartbeats 4000000 in
theorem kX_packed {l : Launch} {D : va_G} {k : ClassId × ClassId × ClassId} {a : Nat → Nat} {B0 : Nat} {w : Nat → va_E} (hA : gA B0 a) {bw : Int32} {bd : Int32} {bu : Int32} {nt : Nat} {ns : Nat} {tw : Nat → Int32} {td : Nat → Int32} {sb : Nat → Int32} {sd : Nat → Int32} {su : Nat → Int32} (hsX : sX k a w ) (hsM : sM k a w bw bd bu nt ns tw td sb sd su) (j : Nat) (q : Int32) (hj : j < nt) (hn : nt ≤ 40) (hw : rngI q 0 1) : Met l yX_packed (tbw yX_packed cX_packed 3 (some .int)) rmX_packed (gPc D k a B0 w [.ref (a 0), .int (nI j), .int q]) (va_Qi (roP (rPk tw td j q) w) (gB D k a) (gF B0)) 0 0 (gF B0) := by
  have hsX0 := hsX
  obtain ⟨hsM15, hsM16, hsM17, hsM18, hsM19, hsM20⟩ := hsM
  refine g_ofW (by decide) rfl (fun p e s m args below meth c Q hQ hx hb hr hlk hml hown hts hB hG hK hS ls hl => ?_)
  have hl : lv_has ls 3 [(0, .ref (a 0)), (1, .int (nI j)), (2, .int q)] := hl
  have hown : s.vm.findClass RX = some m.cls := hown
  refine lv_aload_n hx hb dX_packed_0 rfl (lv_at hl 0 rfl) ?_
  refine g_get hx hb hts inX hown hK hG 0 (by decide) hsX0 rfl 3 (by decide) lkX_33 rfl dX_packed_1 ?_
  refine lv_iload_n hx hb dX_packed_4 rfl (lv_at hl 1 rfl) ?_
  refine g_ViR (i := 15) (As := [.int (nI j)]) (rest := []) (kM_hasThing hA ⟨hsM15, hsM16, hsM17, hsM18, hsM19, hsM20⟩ (nI j)) calM_hasThing cvM_hasThing mlX_195 hx hb hml hown hts hB hG hK hS (by decide) hsM15 rfl ⟨by decide, by decide⟩ rfl hl.1 rfl (Nat.le_of_ble_eq_true rfl) dX_packed_5 ⟨by decide, by decide⟩ (fun H locs hG hS => ?_)
  refine lb_if_ne (tgt := 21) hx hb dX_packed_8 (by decide) (fun c1 => ?_) (fun c1 => ?_)
  · refine lv_iload_n hx hb dX_packed_21 rfl (lv_at hl 2 rfl) ?_
    refine lv_if_lt (tgt := 30) hx hb dX_packed_22 (by decide) (fun c2 => ?_) (fun c2 => ?_)
    · exfalso
      first | exact absurd (by assumption) hw.1 | exact absurd (Int32.not_le.mp (by assumption)) hw.2
    · refine lv_iload_n hx hb dX_packed_25 rfl (lv_at hl 2 rfl) ?_
      refine lv_iconst (v := 1) hx hb dX_packed_26 (by decide) ?_
      refine lv_icmp_le (tgt := 40) hx hb dX_packed_27 (by decide) (fun c3 => ?_) (fun c3 => ?_)
      · refine lv_iload_n hx hb dX_packed_40 rfl (lv_at hl 2 rfl) ?_
        refine lv_if_ne (tgt := 55) hx hb dX_packed_41 (by decide) (fun c4 => ?_) (fun c4 => ?_)
        · refine lv_aload_n hx hb dX_packed_55 rfl (lv_at hl 0 rfl) ?_
          refine g_get hx hb hts inX hown hK hG 0 (by decide) hsX0 rfl 3 (by decide) lkX_33 rfl dX_packed_56 ?_
          refine lv_iload_n hx hb dX_packed_59 rfl (lv_at hl 1 rfl) ?_
          refine g_ViR (i := 15) (As := [.int (nI j)]) (rest := []) (kM_alongDepth hA ⟨hsM15, hsM16, hsM17, hsM18, hsM19, hsM20⟩ j (by omega)) calM_alongDepth cvM_alongDepth mlX_205 hx hb hml hown hts hB hG hK hS (by decide) hsM15 rfl ⟨by decide, by decide⟩ rfl hl.1 rfl (Nat.le_of_ble_eq_true rfl) dX_packed_60 ⟨by decide, by decide⟩ (fun H locs hG hS => ?_)
          exact g_iret hQ hx hb hr hlk hG hK hS (by decide) (by decide) ⟨by first | exact (if_pos (by assumption)).symm | exact (if_neg (by assumption)).symm, rfl⟩ dX_packed_63
        · refine lv_aload_n hx hb dX_packed_44 rfl (lv_at hl 0 rfl) ?_
          refine g_get hx hb hts inX hown hK hG 0 (by decide) hsX0 rfl 3 (by decide) lkX_33 rfl dX_packed_45 ?_
          refine lv_iload_n hx hb dX_packed_48 rfl (lv_at hl 1 rfl) ?_
          refine g_ViR (i := 15) (As := [.int (nI j)]) (rest := []) (kM_alongWidth hA ⟨hsM15, hsM16, hsM17, hsM18, hsM19, hsM20⟩ j (by omega)) calM_alongWidth cvM_alongWidth mlX_202 hx hb hml hown hts hB hG hK hS (by decide) hsM15 rfl ⟨by decide, by decide⟩ rfl hl.1 rfl (Nat.le_of_ble_eq_true rfl) dX_packed_49 ⟨by decide, by decide⟩ (fun H locs hG hS => ?_)
          refine lv_goto (tgt := 63) hx hb dX_packed_52 (by decide) ?_
          exact g_iret hQ hx hb hr hlk hG hK hS (by decide) (by decide) ⟨by first | exact (if_pos (by assumption)).symm | exact (if_neg (by assumption)).symm, rfl⟩ dX_packed_63
      · exfalso
        first | exact absurd (by assumption) hw.1 | exact absurd (Int32.not_le.mp (by assumption)) hw.2
  · exfalso
    exact (by assumption : ¬ (¬ nI j < 0 ∧ ¬ nI nt ≤ nI j)) ⟨nI_pos (by omega), nI_ge (by omega) (by omega)⟩

abbrev rmX_packed_p : Room := { frames := 6, cells := 1, slots := 6, locals := 82 }
set_option maxRecDepth 100000 in
set_option maxHeartbeats 4000000 in
theorem kX_packed_p {l : Launch} (hl9 : l.stackTraces = false) {D : va_G} {k : ClassId × ClassId × ClassId} {a : Nat → Nat} {B0 : Nat} {w : Nat → va_E} (hA : gA B0 a) {bw : Int32} {bd : Int32} {bu : Int32} {nt : Nat} {ns : Nat} {tw : Nat → Int32} {td : Nat → Int32} {sb : Nat → Int32} {sd : Nat → Int32} {su : Nat → Int32} (hsX : sX k a w ) (hsM : sM k a w bw bd bu nt ns tw td sb sd su) (q : Int32) (r : Int32) (hq : ¬ (¬ q < 0 ∧ ¬ nI nt ≤ q)) : xMet l yX_packed cX_packed 3 (some .int) rmX_packed_p D k a B0 w [.ref (a 0), .int q, .int r] eIOB := by
  have hsX0 := hsX
  obtain ⟨hsM15, hsM16, hsM17, hsM18, hsM19, hsM20⟩ := hsM
  refine x_ofW (by decide) rfl (fun p e s m args below meth c Q hQ htab hx hb hr hlk hml hown hts hB hG hK hS hXS ls hl => ?_)
  have hl : lv_has ls 3 [(0, .ref (a 0)), (1, .int q), (2, .int r)] := hl
  have hown : s.vm.findClass RX = some m.cls := hown
  refine lv_aload_n hx hb dX_packed_0 rfl (lv_at hl 0 rfl) ?_
  refine g_get hx hb hts inX hown hK hG 0 (by decide) hsX0 rfl 3 (by decide) lkX_33 rfl dX_packed_1 ?_
  refine lv_iload_n hx hb dX_packed_4 rfl (lv_at hl 1 rfl) ?_
  refine g_ViR (i := 15) (As := [.int q]) (rest := []) (kM_hasThing hA ⟨hsM15, hsM16, hsM17, hsM18, hsM19, hsM20⟩ q) calM_hasThing cvM_hasThing mlX_195 hx hb hml hown hts hB hG hK hS (by decide) hsM15 rfl ⟨by decide, by decide⟩ rfl hl.1 rfl (Nat.le_of_ble_eq_true rfl) dX_packed_5 ⟨by decide, by decide⟩ (fun H locs hG hS => ?_)
  refine lb_if_ne (tgt := 21) hx hb dX_packed_8 (by decide) (fun c1 => ?_) (fun c1 => ?_)
  · exact absurd c1 hq
  · exact x_throw hQ hl9 xok_eIOB (show ((198 : Nat), "no such thing") ∈ xStr by decide +kernel) hx hb hml hown hts hG hK hS hXS hlk htab hl.1 dX_packed_11 dX_packed_14 dX_packed_15 dX_packed_17 dX_packed_20 (by decide) (by decide) (by decide) (by decide) (by decide) (by decide)

abbrev rmX_packed_w : Room := { frames := 6, cells := 1, slots := 6, locals := 82 }
set_option maxRecDepth 100000 in
set_option maxHeartbeats 4000000 in
theorem kX_packed_w {l : Launch} (hl9 : l.stackTraces = false) {D : va_G} {k : ClassId × ClassId × ClassId} {a : Nat → Nat} {B0 : Nat} {w : Nat → va_E} (hA : gA B0 a) {bw : Int32} {bd : Int32} {bu : Int32} {nt : Nat} {ns : Nat} {tw : Nat → Int32} {td : Nat → Int32} {sb : Nat → Int32} {sd : Nat → Int32} {su : Nat → Int32} (hsX : sX k a w ) (hsM : sM k a w bw bd bu nt ns tw td sb sd su) (j : Nat) (r : Int32) (hj : j < nt) (hn : nt ≤ 40) (hw : ¬ rngI r 0 1) : xMet l yX_packed cX_packed 3 (some .int) rmX_packed_w D k a B0 w [.ref (a 0), .int (nI j), .int r] eIOB := by
  have hsX0 := hsX
  obtain ⟨hsM15, hsM16, hsM17, hsM18, hsM19, hsM20⟩ := hsM
  refine x_ofW (by decide) rfl (fun p e s m args below meth c Q hQ htab hx hb hr hlk hml hown hts hB hG hK hS hXS ls hl => ?_)
  have hl : lv_has ls 3 [(0, .ref (a 0)), (1, .int (nI j)), (2, .int r)] := hl
  have hown : s.vm.findClass RX = some m.cls := hown
  refine lv_aload_n hx hb dX_packed_0 rfl (lv_at hl 0 rfl) ?_
  refine g_get hx hb hts inX hown hK hG 0 (by decide) hsX0 rfl 3 (by decide) lkX_33 rfl dX_packed_1 ?_
  refine lv_iload_n hx hb dX_packed_4 rfl (lv_at hl 1 rfl) ?_
  refine g_ViR (i := 15) (As := [.int (nI j)]) (rest := []) (kM_hasThing hA ⟨hsM15, hsM16, hsM17, hsM18, hsM19, hsM20⟩ (nI j)) calM_hasThing cvM_hasThing mlX_195 hx hb hml hown hts hB hG hK hS (by decide) hsM15 rfl ⟨by decide, by decide⟩ rfl hl.1 rfl (Nat.le_of_ble_eq_true rfl) dX_packed_5 ⟨by decide, by decide⟩ (fun H locs hG hS => ?_)
  refine lb_if_ne (tgt := 21) hx hb dX_packed_8 (by decide) (fun c1 => ?_) (fun c1 => ?_)
  · refine lv_iload_n hx hb dX_packed_21 rfl (lv_at hl 2 rfl) ?_
    refine lv_if_lt (tgt := 30) hx hb dX_packed_22 (by decide) (fun c2 => ?_) (fun c2 => ?_)
    · exact x_throw hQ hl9 xok_eIOB (show ((200 : Nat), "a thing begins along 0 and 1") ∈ xStr by decide +kernel) hx hb hml hown hts hG hK hS hXS hlk htab hl.1 dX_packed_30 dX_packed_33 dX_packed_34 dX_packed_36 dX_packed_39 (by decide) (by decide) (by decide) (by decide) (by decide) (by decide)
    · refine lv_iload_n hx hb dX_packed_25 rfl (lv_at hl 2 rfl) ?_
      refine lv_iconst (v := 1) hx hb dX_packed_26 (by decide) ?_
      refine lv_icmp_le (tgt := 40) hx hb dX_packed_27 (by decide) (fun c3 => ?_) (fun c3 => ?_)
      · exact absurd ⟨by assumption, Int32.not_lt.mpr (by assumption)⟩ hw
      · exact x_throw hQ hl9 xok_eIOB (show ((200 : Nat), "a thing begins along 0 and 1") ∈ xStr by decide +kernel) hx hb hml hown hts hG hK hS hXS hlk htab hl.1 dX_packed_30 dX_packed_33 dX_packed_34 dX_packed_36 dX_packed_39 (by decide) (by decide) (by decide) (by decide) (by decide) (by decide)
  · exact absurd ⟨nI_pos (by omega), nI_ge (by omega) (by omega)⟩ c1
