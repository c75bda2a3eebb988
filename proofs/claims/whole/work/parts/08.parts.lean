abbrev rmP_count : Room := { frames := 0, cells := 0, slots := 0, locals := 0 }
set_option maxRecDepth 100000 in
set_option maxHeartbeats 4000000 in
theorem kP_count {l : Launch} {D : va_G} {k : ClassId × ClassId × ClassId} {a : Nat → Nat} {B0 : Nat} {w : Nat → va_E} (hA : gA B0 a) {n : Nat} {up : Nat → Int64} {lo : Nat → Int64} {fa : Nat → Int32} {we : Nat → Int32} {ti : Nat → Int32} {ri : Nat → Int32} {jo : Nat → Int32} (hsP : sP k a w n up lo fa we ti ri jo)  : Met l yP_count (tbw yP_count cP_count 1 (some .int)) rmP_count (gPc D k a B0 w [.ref (a 1)]) (va_Qi (roP (nI n) w) (gB D k a) (gF B0)) 0 0 (gF B0) := by
  obtain ⟨hsP1, hsP2, hsP3, hsP4, hsP5, hsP6, hsP7, hsP8⟩ := hsP
  refine g_ofW (by decide) rfl (fun p e s m args below meth c Q hQ hx hb hr hlk hml hown hts hB hG hK hS ls hl => ?_)
  have hl : lv_has ls 1 [(0, .ref (a 1))] := hl
  have hown : s.vm.findClass RP = some m.cls := hown
  refine lv_aload_n hx hb dP_count_0 rfl (lv_at hl 0 rfl) ?_
  refine g_get hx hb hts inP hown hK hG 1 (by decide) hsP1 rfl 7 (by decide) lkP_35 rfl dP_count_1 ?_
  exact g_iret hQ hx hb hr hlk hG hK hS (by decide) (by decide) ⟨by first | rfl | omega | (simp_all; done) | grind, rfl⟩ dP_count_4

abbrev rmP_isFull : Room := { frames := 0, cells := 0, slots := 0, locals := 0 }
set_option maxRecDepth 100000 in
set_option maxHeartbeats 4000000 in
theorem kP_isFull {l : Launch} {D : va_G} {k : ClassId × ClassId × ClassId} {a : Nat → Nat} {B0 : Nat} {w : Nat → va_E} (hA : gA B0 a) {n : Nat} {up : Nat → Int64} {lo : Nat → Int64} {fa : Nat → Int32} {we : Nat → Int32} {ti : Nat → Int32} {ri : Nat → Int32} {jo : Nat → Int32} (hsP : sP k a w n up lo fa we ti ri jo) (hn : n ≤ 12) : Met l yP_isFull (tbw yP_isFull cP_isFull 1 (some .boolean)) rmP_isFull (gPc D k a B0 w [.ref (a 1)]) (va_Qi (roP (b2i (12 ≤ n)) w) (gB D k a) (gF B0)) 0 0 (gF B0) := by
  obtain ⟨hsP1, hsP2, hsP3, hsP4, hsP5, hsP6, hsP7, hsP8⟩ := hsP
  refine g_ofW (by decide) rfl (fun p e s m args below meth c Q hQ hx hb hr hlk hml hown hts hB hG hK hS ls hl => ?_)
  have hl : lv_has ls 1 [(0, .ref (a 1))] := hl
  have hown : s.vm.findClass RP = some m.cls := hown
  refine lv_aload_n hx hb dP_isFull_0 rfl (lv_at hl 0 rfl) ?_
  refine g_get hx hb hts inP hown hK hG 1 (by decide) hsP1 rfl 7 (by decide) lkP_35 rfl dP_isFull_1 ?_
  refine lv_bipush (v := 12) hx hb dP_isFull_4 (by decide) ?_
  refine ln_icmp_lt (x := n) (y := 12) (tgt := 13) hx hb dP_isFull_6 (by decide) (by omega) (by decide) (fun c1 => ?_) (fun c1 => ?_)
  · refine lv_iconst (v := 0) hx hb dP_isFull_13 (by decide) ?_
    exact g_zret hQ hx hb hr hlk hG hK hS (by decide) (by decide) (by decide) ⟨(b2i_f (by first | rfl | omega | (simp_all; done) | grind)).symm, rfl⟩ dP_isFull_14
  · refine lv_iconst (v := 1) hx hb dP_isFull_9 (by decide) ?_
    refine lv_goto (tgt := 14) hx hb dP_isFull_10 (by decide) ?_
    exact g_zret hQ hx hb hr hlk hG hK hS (by decide) (by decide) (by decide) ⟨(b2i_t (by first | rfl | omega | (simp_all; done) | grind)).symm, rfl⟩ dP_isFull_14

abbrev rmP_has : Room := { frames := 0, cells := 0, slots := 0, locals := 0 }
set_option maxRecDepth 100000 in
set_option maxHeartbeats 4000000 in
theorem kP_has {l : Launch} {D : va_G} {k : ClassId × ClassId × ClassId} {a : Nat → Nat} {B0 : Nat} {w : Nat → va_E} (hA : gA B0 a) {n : Nat} {up : Nat → Int64} {lo : Nat → Int64} {fa : Nat → Int32} {we : Nat → Int32} {ti : Nat → Int32} {ri : Nat → Int32} {jo : Nat → Int32} (hsP : sP k a w n up lo fa we ti ri jo) (q : Int32) : Met l yP_has (tbw yP_has cP_has 2 (some .boolean)) rmP_has (gPc D k a B0 w [.ref (a 1), .int q]) (va_Qi (roP (b2i (¬ q < 0 ∧ ¬ nI n ≤ q)) w) (gB D k a) (gF B0)) 0 0 (gF B0) := by
  obtain ⟨hsP1, hsP2, hsP3, hsP4, hsP5, hsP6, hsP7, hsP8⟩ := hsP
  refine g_ofW (by decide) rfl (fun p e s m args below meth c Q hQ hx hb hr hlk hml hown hts hB hG hK hS ls hl => ?_)
  have hl : lv_has ls 2 [(0, .ref (a 1)), (1, .int q)] := hl
  have hown : s.vm.findClass RP = some m.cls := hown
  refine lv_iload_n hx hb dP_has_0 rfl (lv_at hl 1 rfl) ?_
  refine lv_if_lt (tgt := 16) hx hb dP_has_1 (by decide) (fun c1 => ?_) (fun c1 => ?_)
  · refine lv_iconst (v := 0) hx hb dP_has_16 (by decide) ?_
    exact g_zret hQ hx hb hr hlk hG hK hS (by decide) (by decide) (by decide) ⟨(b2i_f (by simp_all)).symm, rfl⟩ dP_has_17
  · refine lv_iload_n hx hb dP_has_4 rfl (lv_at hl 1 rfl) ?_
    refine lv_aload_n hx hb dP_has_5 rfl (lv_at hl 0 rfl) ?_
    refine g_get hx hb hts inP hown hK hG 1 (by decide) hsP1 rfl 7 (by decide) lkP_35 rfl dP_has_6 ?_
    refine lv_icmp_ge (tgt := 16) hx hb dP_has_9 (by decide) (fun c2 => ?_) (fun c2 => ?_)
    · refine lv_iconst (v := 0) hx hb dP_has_16 (by decide) ?_
      exact g_zret hQ hx hb hr hlk hG hK hS (by decide) (by decide) (by decide) ⟨(b2i_f (by simp_all)).symm, rfl⟩ dP_has_17
    · refine lv_iconst (v := 1) hx hb dP_has_12 (by decide) ?_
      refine lv_goto (tgt := 17) hx hb dP_has_13 (by decide) ?_
      exact g_zret hQ hx hb hr hlk hG hK hS (by decide) (by decide) (by decide) ⟨(b2i_t (by simp_all)).symm, rfl⟩ dP_has_17

abbrev rmP_hasFace : Room := { frames := 0, cells := 0, slots := 0, locals := 0 }
set_option maxRecDepth 100000 in
set_option maxHeartbeats 4000000 in
theorem kP_hasFace {l : Launch} {D : va_G} {k : ClassId × ClassId × ClassId} {a : Nat → Nat} {B0 : Nat} {w : Nat → va_E} (hA : gA B0 a) {n : Nat} {up : Nat → Int64} {lo : Nat → Int64} {fa : Nat → Int32} {we : Nat → Int32} {ti : Nat → Int32} {ri : Nat → Int32} {jo : Nat → Int32} (hsP : sP k a w n up lo fa we ti ri jo) (j : Nat) (f : Int32) (hj : j < 12) : Met l yP_hasFace (tbw yP_hasFace cP_hasFace 3 (some .boolean)) rmP_hasFace (gPc D k a B0 w [.ref (a 1), .int (nI j), .int f]) (va_Qi (roP (b2i (¬ f < 0 ∧ ¬ fa j ≤ f)) w) (gB D k a) (gF B0)) 0 0 (gF B0) := by
  obtain ⟨hsP1, hsP2, hsP3, hsP4, hsP5, hsP6, hsP7, hsP8⟩ := hsP
  refine g_ofW (by decide) rfl (fun p e s m args below meth c Q hQ hx hb hr hlk hml hown hts hB hG hK hS ls hl => ?_)
  have hl : lv_has ls 3 [(0, .ref (a 1)), (1, .int (nI j)), (2, .int f)] := hl
  have hown : s.vm.findClass RP = some m.cls := hown
  refine lv_iload_n hx hb dP_hasFace_0 rfl (lv_at hl 2 rfl) ?_
  refine lv_if_lt (tgt := 18) hx hb dP_hasFace_1 (by decide) (fun c1 => ?_) (fun c1 => ?_)
  · refine lv_iconst (v := 0) hx hb dP_hasFace_18 (by decide) ?_
    exact g_zret hQ hx hb hr hlk hG hK hS (by decide) (by decide) (by decide) ⟨(b2i_f (by simp_all)).symm, rfl⟩ dP_hasFace_19
  · refine lv_iload_n hx hb dP_hasFace_4 rfl (lv_at hl 2 rfl) ?_
    refine lv_aload_n hx hb dP_hasFace_5 rfl (lv_at hl 0 rfl) ?_
    refine g_get hx hb hts inP hown hK hG 1 (by decide) hsP1 rfl 2 (by decide) lkP_18 rfl dP_hasFace_6 ?_
    refine lv_iload_n hx hb dP_hasFace_9 rfl (lv_at hl 1 rfl) ?_
    refine g_iald hx hb hK hG 4 (by decide) hsP4 (j := j) (by omega) (by decide) dP_hasFace_10 ?_
    refine lv_icmp_ge (tgt := 18) hx hb dP_hasFace_11 (by decide) (fun c2 => ?_) (fun c2 => ?_)
    · refine lv_iconst (v := 0) hx hb dP_hasFace_18 (by decide) ?_
      exact g_zret hQ hx hb hr hlk hG hK hS (by decide) (by decide) (by decide) ⟨(b2i_f (by simp_all)).symm, rfl⟩ dP_hasFace_19
    · refine lv_iconst (v := 1) hx hb dP_hasFace_14 (by decide) ?_
      refine lv_goto (tgt := 19) hx hb dP_hasFace_15 (by decide) ?_
      exact g_zret hQ hx hb hr hlk hG hK hS (by decide) (by decide) (by decide) ⟨(b2i_t (by simp_all)).symm, rfl⟩ dP_hasFace_19

abbrev rmP_open : Room := { frames := 0, cells := 0, slots := 0, locals := 0 }
set_option maxRecDepth 100000 in
set_option maxHeartbeats 4000000 in
theorem kP_open {l : Launch} {D : va_G} {k : ClassId × ClassId × ClassId} {a : Nat → Nat} {B0 : Nat} {w : Nat → va_E} (hA : gA B0 a) {n : Nat} {up : Nat → Int64} {lo : Nat → Int64} {fa : Nat → Int32} {we : Nat → Int32} {ti : Nat → Int32} {ri : Nat → Int32} {jo : Nat → Int32} (hsP : sP k a w n up lo fa we ti ri jo) (q : Int32) (u : Int64) (hn : n < 12) : Met l yP_open (tbw yP_open cP_open 5 (some .int)) rmP_open (gPc D k a B0 w [.ref (a 1), .int q, .long u]) (va_Qi (fun rr9 w1 => rr9 = (nI n) ∧ (sP k a w1 (n + 1) (vp_updL up n u) lo (upd fa n q) we ti (upd ri n (-1)) jo) ∧ ∀ z, z < 1 ∨ 8 < z → w1 z = w z) (gB D k a) (gF B0)) 0 0 (gF B0) := by
  obtain ⟨hsP1, hsP2, hsP3, hsP4, hsP5, hsP6, hsP7, hsP8⟩ := hsP
  refine g_ofW (by decide) rfl (fun p e s m args below meth c Q hQ hx hb hr hlk hml hown hts hB hG hK hS ls hl => ?_)
  have hl : lv_has ls 5 [(0, .ref (a 1)), (1, .int q), (2, .long u)] := hl
  have hown : s.vm.findClass RP = some m.cls := hown
  have hfr0 : ∀ z, z < 1 ∨ 8 < z → w z = w z := fun _ _ => rfl
  refine lv_aload_n hx hb dP_open_0 rfl (lv_at hl 0 rfl) ?_
  refine g_get hx hb hts inP hown hK hG 1 (by decide) hsP1 rfl 7 (by decide) lkP_35 rfl dP_open_1 ?_
  refine lv_istore (lv' := [(4, .int (nI n)), (0, .ref (a 1)), (1, .int q), (2, .long u)]) hx hb dP_open_4 hl (by decide) rfl (fun ls hl => ?_)
  refine lv_aload_n hx hb dP_open_6 rfl (lv_at hl 1 rfl) ?_
  refine lv_dup hx hb dP_open_7 rfl ?_
  refine g_get hx hb hts inP hown hK hG 1 (by decide) hsP1 rfl 7 (by decide) lkP_35 rfl dP_open_8 ?_
  refine lv_iconst (v := 1) hx hb dP_open_11 (by decide) ?_
  refine ln_iadd (x := n) (y := 1) hx hb dP_open_12 ?_
  refine g_put hx hb hts inP tyP tokP nokP hown hK hA hG hS 1 (by decide) hsP1 rfl 7 (by decide) lkP_35 rfl (ty := .int) (by decide +kernel) rfl rfl (Nat.le_of_ble_eq_true rfl) dP_open_13 (fun H locs hG hS => ?_)
  obtain ⟨w1, hw2⟩ : ∃ zz9, zz9 = va_up w 1 (.inr (1, [.ref (a 2), .ref (a 3), .ref (a 4), .ref (a 5), .ref (a 6), .ref (a 7), .ref (a 8), .int (nI (n + 1))])) := ⟨_, rfl⟩
  replace hG : gW D a w1 H := by rw [hw2]; exact hG
  have h3 : w1 1 = .inr (1, [.ref (a 2), .ref (a 3), .ref (a 4), .ref (a 5), .ref (a 6), .ref (a 7), .ref (a 8), .int (nI (n + 1))]) := by rw [hw2]; rfl
  have h4 : w1 2 = .inl (k.2.1, 12, .inr (.inl up)) := by rw [hw2]; exact hsP2
  have h5 : w1 3 = .inl (k.2.1, 12, .inr (.inl lo)) := by rw [hw2]; exact hsP3
  have h6 : w1 4 = .inl (k.1, 12, .inl fa) := by rw [hw2]; exact hsP4
  have h7 : w1 5 = .inl (k.1, 72, .inl we) := by rw [hw2]; exact hsP5
  have h8 : w1 6 = .inl (k.1, 72, .inl ti) := by rw [hw2]; exact hsP6
  have h9 : w1 7 = .inl (k.1, 12, .inl ri) := by rw [hw2]; exact hsP7
  have h10 : w1 8 = .inl (k.2.2, 144, .inl jo) := by rw [hw2]; exact hsP8
  have hfr11 : ∀ z, z < 1 ∨ 8 < z → w1 z = w z := fun z hz => by rw [hw2]; exact (va_up_ne _ _ (by omega)).trans (hfr0 z hz)
  refine lv_aload_n hx hb dP_open_16 rfl (lv_at hl 1 rfl) ?_
  refine g_get hx hb hts inP hown hK hG 1 (by decide) h3 rfl 2 (by decide) lkP_18 rfl dP_open_17 ?_
  refine lv_iload hx hb dP_open_20 (lv_at hl 0 rfl) ?_
  refine lv_iload_n hx hb dP_open_22 rfl (lv_at hl 2 rfl) ?_
  refine g_iast hx hb hK hA hG hS 4 (by decide) h6 (j := n) (by omega) (by decide) dP_open_23 (fun H locs hG hS => ?_)
  obtain ⟨w12, hw13⟩ : ∃ zz9, zz9 = va_up w1 4 (.inl (k.1, 12, .inl (upd fa n q))) := ⟨_, rfl⟩
  replace hG : gW D a w12 H := by rw [hw13]; exact hG
  have h14 : w12 1 = .inr (1, [.ref (a 2), .ref (a 3), .ref (a 4), .ref (a 5), .ref (a 6), .ref (a 7), .ref (a 8), .int (nI (n + 1))]) := by rw [hw13]; exact h3
  have h15 : w12 2 = .inl (k.2.1, 12, .inr (.inl up)) := by rw [hw13]; exact h4
  have h16 : w12 3 = .inl (k.2.1, 12, .inr (.inl lo)) := by rw [hw13]; exact h5
  have h17 : w12 4 = .inl (k.1, 12, .inl (upd fa n q)) := by rw [hw13]; rfl
  have h18 : w12 5 = .inl (k.1, 72, .inl we) := by rw [hw13]; exact h7
  have h19 : w12 6 = .inl (k.1, 72, .inl ti) := by rw [hw13]; exact h8
  have h20 : w12 7 = .inl (k.1, 12, .inl ri) := by rw [hw13]; exact h9
  have h21 : w12 8 = .inl (k.2.2, 144, .inl jo) := by rw [hw13]; exact h10
  have hfr22 : ∀ z, z < 1 ∨ 8 < z → w12 z = w z := fun z hz => by rw [hw13]; exact (va_up_ne _ _ (by omega)).trans (hfr11 z hz)
  refine lv_aload_n hx hb dP_open_24 rfl (lv_at hl 1 rfl) ?_
  refine g_get hx hb hts inP hown hK hG 1 (by decide) h14 rfl 0 (by decide) lkP_9 rfl dP_open_25 ?_
  refine lv_iload hx hb dP_open_28 (lv_at hl 0 rfl) ?_
  refine lv_lload_n hx hb dP_open_30 rfl (lv_at hl 3 rfl) ?_
  refine g_last hx hb hK hA hG hS 2 (by decide) h15 (j := n) (by omega) (by decide) dP_open_31 (fun H locs hG hS => ?_)
  obtain ⟨w23, hw24⟩ : ∃ zz9, zz9 = va_up w12 2 (.inl (k.2.1, 12, .inr (.inl (vp_updL up n u)))) := ⟨_, rfl⟩
  replace hG : gW D a w23 H := by rw [hw24]; exact hG
  have h25 : w23 1 = .inr (1, [.ref (a 2), .ref (a 3), .ref (a 4), .ref (a 5), .ref (a 6), .ref (a 7), .ref (a 8), .int (nI (n + 1))]) := by rw [hw24]; exact h14
  have h26 : w23 2 = .inl (k.2.1, 12, .inr (.inl (vp_updL up n u))) := by rw [hw24]; rfl
  have h27 : w23 3 = .inl (k.2.1, 12, .inr (.inl lo)) := by rw [hw24]; exact h16
  have h28 : w23 4 = .inl (k.1, 12, .inl (upd fa n q)) := by rw [hw24]; exact h17
  have h29 : w23 5 = .inl (k.1, 72, .inl we) := by rw [hw24]; exact h18
  have h30 : w23 6 = .inl (k.1, 72, .inl ti) := by rw [hw24]; exact h19
  have h31 : w23 7 = .inl (k.1, 12, .inl ri) := by rw [hw24]; exact h20
  have h32 : w23 8 = .inl (k.2.2, 144, .inl jo) := by rw [hw24]; exact h21
  have hfr33 : ∀ z, z < 1 ∨ 8 < z → w23 z = w z := fun z hz => by rw [hw24]; exact (va_up_ne _ _ (by omega)).trans (hfr22 z hz)
  refine lv_aload_n hx hb dP_open_32 rfl (lv_at hl 1 rfl) ?_
  refine g_get hx hb hts inP hown hK hG 1 (by decide) h25 rfl 5 (by decide) lkP_28 rfl dP_open_33 ?_
  refine lv_iload hx hb dP_open_36 (lv_at hl 0 rfl) ?_
  refine lv_iconst (v := (-1)) hx hb dP_open_38 (by decide) ?_
  refine g_iast hx hb hK hA hG hS 7 (by decide) h31 (j := n) (by omega) (by decide) dP_open_39 (fun H locs hG hS => ?_)
  obtain ⟨w34, hw35⟩ : ∃ zz9, zz9 = va_up w23 7 (.inl (k.1, 12, .inl (upd ri n (-1)))) := ⟨_, rfl⟩
  replace hG : gW D a w34 H := by rw [hw35]; exact hG
  have h36 : w34 1 = .inr (1, [.ref (a 2), .ref (a 3), .ref (a 4), .ref (a 5), .ref (a 6), .ref (a 7), .ref (a 8), .int (nI (n + 1))]) := by rw [hw35]; exact h25
  have h37 : w34 2 = .inl (k.2.1, 12, .inr (.inl (vp_updL up n u))) := by rw [hw35]; exact h26
  have h38 : w34 3 = .inl (k.2.1, 12, .inr (.inl lo)) := by rw [hw35]; exact h27
  have h39 : w34 4 = .inl (k.1, 12, .inl (upd fa n q)) := by rw [hw35]; exact h28
  have h40 : w34 5 = .inl (k.1, 72, .inl we) := by rw [hw35]; exact h29
  have h41 : w34 6 = .inl (k.1, 72, .inl ti) := by rw [hw35]; exact h30
  have h42 : w34 7 = .inl (k.1, 12, .inl (upd ri n (-1))) := by rw [hw35]; rfl
  have h43 : w34 8 = .inl (k.2.2, 144, .inl jo) := by rw [hw35]; exact h32
  have hfr44 : ∀ z, z < 1 ∨ 8 < z → w34 z = w z := fun z hz => by rw [hw35]; exact (va_up_ne _ _ (by omega)).trans (hfr33 z hz)
  refine lv_iload hx hb dP_open_40 (lv_at hl 0 rfl) ?_
  exact g_iret hQ hx hb hr hlk hG hK hS (by decide) (by decide) ⟨by first | rfl | omega | (simp_all; done) | grind, ⟨h36, h37, h38, h39, h40, h41, h42, h43⟩, hfr44⟩ dP_open_42

abbrev rmP_setTimes : Room := { frames := 0, cells := 0, slots := 0, locals := 0 }
set_option maxRecDepth 100000 in
set_option maxHeartbeats 4000000 in
theorem kP_setTimes {l : Launch} {D : va_G} {k : ClassId × ClassId × ClassId} {a : Nat → Nat} {B0 : Nat} {w : Nat → va_E} (hA : gA B0 a) {n : Nat} {up : Nat → Int64} {lo : Nat → Int64} {fa : Nat → Int32} {we : Nat → Int32} {ti : Nat → Int32} {ri : Nat → Int32} {jo : Nat → Int32} (hsP : sP k a w n up lo fa we ti ri jo) (j : Nat) (f : Nat) (h : Int32) (hj : j < 12) (hf : f < 6) : Met l yP_setTimes (tbw yP_setTimes cP_setTimes 5 none) rmP_setTimes (gPc D k a B0 w [.ref (a 1), .int (nI j), .int (nI f), .int h]) (va_Qv (fun w1 => (sP k a w1 n up (vp_updL lo j (lo j + (we (j * 6 + f)).toInt64 * (h - ti (j * 6 + f)).toInt64)) fa we (upd ti (j * 6 + f) h) ri jo) ∧ ∀ z, z < 1 ∨ 8 < z → w1 z = w z) (gB D k a) (gF B0)) 0 0 (gF B0) := by
  obtain ⟨hsP1, hsP2, hsP3, hsP4, hsP5, hsP6, hsP7, hsP8⟩ := hsP
  refine g_ofW (by decide) rfl (fun p e s m args below meth c Q hQ hx hb hr hlk hml hown hts hB hG hK hS ls hl => ?_)
  have hl : lv_has ls 5 [(0, .ref (a 1)), (1, .int (nI j)), (2, .int (nI f)), (3, .int h)] := hl
  have hown : s.vm.findClass RP = some m.cls := hown
  have hfr0 : ∀ z, z < 1 ∨ 8 < z → w z = w z := fun _ _ => rfl
  refine lv_iload_n hx hb dP_setTimes_0 rfl (lv_at hl 1 rfl) ?_
  refine lv_bipush (v := 6) hx hb dP_setTimes_1 (by decide) ?_
  refine ln_imul (x := j) (y := 6) hx hb dP_setTimes_3 ?_
  refine lv_iload_n hx hb dP_setTimes_4 rfl (lv_at hl 2 rfl) ?_
  refine ln_iadd (x := j * 6) (y := f) hx hb dP_setTimes_5 ?_
  refine lv_istore (lv' := [(4, .int (nI ((j * 6) + f))), (0, .ref (a 1)), (1, .int (nI j)), (2, .int (nI f)), (3, .int h)]) hx hb dP_setTimes_6 hl (by decide) rfl (fun ls hl => ?_)
  refine lv_aload_n hx hb dP_setTimes_8 rfl (lv_at hl 1 rfl) ?_
  refine g_get hx hb hts inP hown hK hG 1 (by decide) hsP1 rfl 1 (by decide) lkP_15 rfl dP_setTimes_9 ?_
  refine lv_iload_n hx hb dP_setTimes_12 rfl (lv_at hl 2 rfl) ?_
  refine lv_dup2_11 hx hb dP_setTimes_13 rfl rfl ?_
  refine g_lald hx hb hK hG 3 (by decide) hsP3 (j := j) (by omega) (by decide) dP_setTimes_14 ?_
  refine lv_aload_n hx hb dP_setTimes_15 rfl (lv_at hl 1 rfl) ?_
  refine g_get hx hb hts inP hown hK hG 1 (by decide) hsP1 rfl 3 (by decide) lkP_22 rfl dP_setTimes_16 ?_
  refine lv_iload hx hb dP_setTimes_19 (lv_at hl 0 rfl) ?_
  refine g_iald hx hb hK hG 5 (by decide) hsP5 (j := (j * 6) + f) (by omega) (by decide) dP_setTimes_21 ?_
  refine lv_i2l hx hb dP_setTimes_22 rfl ?_
  refine lv_iload_n hx hb dP_setTimes_23 rfl (lv_at hl 4 rfl) ?_
  refine lv_aload_n hx hb dP_setTimes_24 rfl (lv_at hl 1 rfl) ?_
  refine g_get hx hb hts inP hown hK hG 1 (by decide) hsP1 rfl 4 (by decide) lkP_25 rfl dP_setTimes_25 ?_
  refine lv_iload hx hb dP_setTimes_28 (lv_at hl 0 rfl) ?_
  refine g_iald hx hb hK hG 6 (by decide) hsP6 (j := (j * 6) + f) (by omega) (by decide) dP_setTimes_30 ?_
  refine lv_isub hx hb dP_setTimes_31 ?_
  refine lv_i2l hx hb dP_setTimes_32 rfl ?_
  refine lv_lmul hx hb dP_setTimes_33 ?_
  refine lv_ladd hx hb dP_setTimes_34 ?_
  refine g_last hx hb hK hA hG hS 3 (by decide) hsP3 (j := j) (by omega) (by decide) dP_setTimes_35 (fun H locs hG hS => ?_)
  obtain ⟨w1, hw2⟩ : ∃ zz9, zz9 = va_up w 3 (.inl (k.2.1, 12, .inr (.inl (vp_updL lo j ((lo j) + (((we ((j * 6) + f)).toInt64) * ((h - (ti ((j * 6) + f))).toInt64))))))) := ⟨_, rfl⟩
  replace hG : gW D a w1 H := by rw [hw2]; exact hG
  have h3 : w1 1 = .inr (1, [.ref (a 2), .ref (a 3), .ref (a 4), .ref (a 5), .ref (a 6), .ref (a 7), .ref (a 8), .int (nI n)]) := by rw [hw2]; exact hsP1
  have h4 : w1 2 = .inl (k.2.1, 12, .inr (.inl up)) := by rw [hw2]; exact hsP2
  have h5 : w1 3 = .inl (k.2.1, 12, .inr (.inl (vp_updL lo j ((lo j) + (((we ((j * 6) + f)).toInt64) * ((h - (ti ((j * 6) + f))).toInt64)))))) := by rw [hw2]; rfl
  have h6 : w1 4 = .inl (k.1, 12, .inl fa) := by rw [hw2]; exact hsP4
  have h7 : w1 5 = .inl (k.1, 72, .inl we) := by rw [hw2]; exact hsP5
  have h8 : w1 6 = .inl (k.1, 72, .inl ti) := by rw [hw2]; exact hsP6
  have h9 : w1 7 = .inl (k.1, 12, .inl ri) := by rw [hw2]; exact hsP7
  have h10 : w1 8 = .inl (k.2.2, 144, .inl jo) := by rw [hw2]; exact hsP8
  have hfr11 : ∀ z, z < 1 ∨ 8 < z → w1 z = w z := fun z hz => by rw [hw2]; exact (va_up_ne _ _ (by omega)).trans (hfr0 z hz)
  refine lv_aload_n hx hb dP_setTimes_36 rfl (lv_at hl 1 rfl) ?_
  refine g_get hx hb hts inP hown hK hG 1 (by decide) h3 rfl 4 (by decide) lkP_25 rfl dP_setTimes_37 ?_
  refine lv_iload hx hb dP_setTimes_40 (lv_at hl 0 rfl) ?_
  refine lv_iload_n hx hb dP_setTimes_42 rfl (lv_at hl 4 rfl) ?_
  refine g_iast hx hb hK hA hG hS 6 (by decide) h8 (j := (j * 6) + f) (by omega) (by decide) dP_setTimes_43 (fun H locs hG hS => ?_)
  obtain ⟨w12, hw13⟩ : ∃ zz9, zz9 = va_up w1 6 (.inl (k.1, 72, .inl (upd ti ((j * 6) + f) h))) := ⟨_, rfl⟩
  replace hG : gW D a w12 H := by rw [hw13]; exact hG
  have h14 : w12 1 = .inr (1, [.ref (a 2), .ref (a 3), .ref (a 4), .ref (a 5), .ref (a 6), .ref (a 7), .ref (a 8), .int (nI n)]) := by rw [hw13]; exact h3
  have h15 : w12 2 = .inl (k.2.1, 12, .inr (.inl up)) := by rw [hw13]; exact h4
  have h16 : w12 3 = .inl (k.2.1, 12, .inr (.inl (vp_updL lo j ((lo j) + (((we ((j * 6) + f)).toInt64) * ((h - (ti ((j * 6) + f))).toInt64)))))) := by rw [hw13]; exact h5
  have h17 : w12 4 = .inl (k.1, 12, .inl fa) := by rw [hw13]; exact h6
  have h18 : w12 5 = .inl (k.1, 72, .inl we) := by rw [hw13]; exact h7
  have h19 : w12 6 = .inl (k.1, 72, .inl (upd ti ((j * 6) + f) h)) := by rw [hw13]; rfl
  have h20 : w12 7 = .inl (k.1, 12, .inl ri) := by rw [hw13]; exact h9
  have h21 : w12 8 = .inl (k.2.2, 144, .inl jo) := by rw [hw13]; exact h10
  have hfr22 : ∀ z, z < 1 ∨ 8 < z → w12 z = w z := fun z hz => by rw [hw13]; exact (va_up_ne _ _ (by omega)).trans (hfr11 z hz)
  exact g_vret hQ hx hb hr hlk hG hK hS (by decide) (by decide) ⟨⟨h14, h15, h16, h17, h18, h19, h20, h21⟩, hfr22⟩ dP_setTimes_44

abbrev rmP_addFace : Room := { frames := 1, cells := 0, slots := 0, locals := 24 }
set_option maxRecDepth 100000 in
set_option maxHeartbeats 4000000 in
theorem kP_addFace {l : Launch} {D : va_G} {k : ClassId × ClassId × ClassId} {a : Nat → Nat} {B0 : Nat} {w : Nat → va_E} (hA : gA B0 a) {n : Nat} {up : Nat → Int64} {lo : Nat → Int64} {fa : Nat → Int32} {we : Nat → Int32} {ti : Nat → Int32} {ri : Nat → Int32} {jo : Nat → Int32} (hsP : sP k a w n up lo fa we ti ri jo) (j : Nat) (f : Nat) (q : Int32) (hj : j < 12) (hf : f < 6) : Met l yP_addFace (tbw yP_addFace cP_addFace 4 none) rmP_addFace (gPc D k a B0 w [.ref (a 1), .int (nI j), .int (nI f), .int q]) (va_Qv (fun w1 => (sP k a w1 n up (vp_updL lo j (lo j + q.toInt64 * (1 - ti (j * 6 + f)).toInt64)) fa (upd we (j * 6 + f) q) (upd ti (j * 6 + f) 1) ri jo) ∧ ∀ z, z < 1 ∨ 8 < z → w1 z = w z) (gB D k a) (gF B0)) 0 0 (gF B0) := by
  obtain ⟨hsP1, hsP2, hsP3, hsP4, hsP5, hsP6, hsP7, hsP8⟩ := hsP
  refine g_ofW (by decide) rfl (fun p e s m args below meth c Q hQ hx hb hr hlk hml hown hts hB hG hK hS ls hl => ?_)
  have hl : lv_has ls 4 [(0, .ref (a 1)), (1, .int (nI j)), (2, .int (nI f)), (3, .int q)] := hl
  have hown : s.vm.findClass RP = some m.cls := hown
  have hfr0 : ∀ z, z < 1 ∨ 8 < z → w z = w z := fun _ _ => rfl
  refine lv_aload_n hx hb dP_addFace_0 rfl (lv_at hl 0 rfl) ?_
  refine g_get hx hb hts inP hown hK hG 1 (by decide) hsP1 rfl 3 (by decide) lkP_22 rfl dP_addFace_1 ?_
  refine lv_iload_n hx hb dP_addFace_4 rfl (lv_at hl 1 rfl) ?_
  refine lv_bipush (v := 6) hx hb dP_addFace_5 (by decide) ?_
  refine ln_imul (x := j) (y := 6) hx hb dP_addFace_7 ?_
  refine lv_iload_n hx hb dP_addFace_8 rfl (lv_at hl 2 rfl) ?_
  refine ln_iadd (x := j * 6) (y := f) hx hb dP_addFace_9 ?_
  refine lv_iload_n hx hb dP_addFace_10 rfl (lv_at hl 3 rfl) ?_
  refine g_iast hx hb hK hA hG hS 5 (by decide) hsP5 (j := (j * 6) + f) (by omega) (by decide) dP_addFace_11 (fun H locs hG hS => ?_)
  obtain ⟨w1, hw2⟩ : ∃ zz9, zz9 = va_up w 5 (.inl (k.1, 72, .inl (upd we ((j * 6) + f) q))) := ⟨_, rfl⟩
  replace hG : gW D a w1 H := by rw [hw2]; exact hG
  have h3 : w1 1 = .inr (1, [.ref (a 2), .ref (a 3), .ref (a 4), .ref (a 5), .ref (a 6), .ref (a 7), .ref (a 8), .int (nI n)]) := by rw [hw2]; exact hsP1
  have h4 : w1 2 = .inl (k.2.1, 12, .inr (.inl up)) := by rw [hw2]; exact hsP2
  have h5 : w1 3 = .inl (k.2.1, 12, .inr (.inl lo)) := by rw [hw2]; exact hsP3
  have h6 : w1 4 = .inl (k.1, 12, .inl fa) := by rw [hw2]; exact hsP4
  have h7 : w1 5 = .inl (k.1, 72, .inl (upd we ((j * 6) + f) q)) := by rw [hw2]; rfl
  have h8 : w1 6 = .inl (k.1, 72, .inl ti) := by rw [hw2]; exact hsP6
  have h9 : w1 7 = .inl (k.1, 12, .inl ri) := by rw [hw2]; exact hsP7
  have h10 : w1 8 = .inl (k.2.2, 144, .inl jo) := by rw [hw2]; exact hsP8
  have hfr11 : ∀ z, z < 1 ∨ 8 < z → w1 z = w z := fun z hz => by rw [hw2]; exact (va_up_ne _ _ (by omega)).trans (hfr0 z hz)
  refine lv_aload_n hx hb dP_addFace_12 rfl (lv_at hl 0 rfl) ?_
  refine lv_iload_n hx hb dP_addFace_13 rfl (lv_at hl 1 rfl) ?_
  refine lv_iload_n hx hb dP_addFace_14 rfl (lv_at hl 2 rfl) ?_
  refine lv_iconst (v := 1) hx hb dP_addFace_15 (by decide) ?_
  refine g_Vv (i := 1) (As := [.int (nI j), .int (nI f), .int 1]) (rest := []) (kP_setTimes hA ⟨h3, h4, h5, h6, h7, h8, h9, h10⟩ j f 1 (by omega) (by omega)) calP_setTimes cvP_setTimes mlP_47 hx hb hml hown hts hB hG hK hS (by decide) h3 rfl ⟨by decide, by decide⟩ rfl hl.1 rfl (Nat.le_of_ble_eq_true rfl) dP_addFace_16 ⟨by decide, by decide⟩ (fun w13 H locs hp14 hG hS => ?_)
  obtain ⟨⟨h15, h16, h17, h18, h19, h20, h21, h22⟩, hfr24⟩ := hp14
  have hfr25 : ∀ z, z < 1 ∨ 8 < z → w13 z = w z := fun z hz => (hfr24 z (by omega)).trans (hfr11 z hz)
  rw [pk_us] at h17
  exact g_vret hQ hx hb hr hlk hG hK hS (by decide) (by decide) ⟨⟨h15, h16, h17, h18, h19, h20, h21, h22⟩, hfr25⟩ dP_addFace_19

abbrev rmP_upper : Room := { frames := 0, cells := 0, slots := 0, locals := 0 }
set_option maxRecDepth 100000 in
set_option maxHeartbeats 4000000 in
theorem kP_upper {l : Launch} {D : va_G} {k : ClassId × ClassId × ClassId} {a : Nat → Nat} {B0 : Nat} {w : Nat → va_E} (hA : gA B0 a) {n : Nat} {up : Nat → Int64} {lo : Nat → Int64} {fa : Nat → Int32} {we : Nat → Int32} {ti : Nat → Int32} {ri : Nat → Int32} {jo : Nat → Int32} (hsP : sP k a w n up lo fa we ti ri jo) (j : Nat) (hj : j < 12) : Met l yP_upper (tbw yP_upper cP_upper 2 (some .long)) rmP_upper (gPc D k a B0 w [.ref (a 1), .int (nI j)]) (va_Ql (roP (up j) w) (gB D k a) (gF B0)) 0 0 (gF B0) := by
  obtain ⟨hsP1, hsP2, hsP3, hsP4, hsP5, hsP6, hsP7, hsP8⟩ := hsP
  refine g_ofW (by decide) rfl (fun p e s m args below meth c Q hQ hx hb hr hlk hml hown hts hB hG hK hS ls hl => ?_)
  have hl : lv_has ls 2 [(0, .ref (a 1)), (1, .int (nI j))] := hl
  have hown : s.vm.findClass RP = some m.cls := hown
  refine lv_aload_n hx hb dP_upper_0 rfl (lv_at hl 0 rfl) ?_
  refine g_get hx hb hts inP hown hK hG 1 (by decide) hsP1 rfl 0 (by decide) lkP_9 rfl dP_upper_1 ?_
  refine lv_iload_n hx hb dP_upper_4 rfl (lv_at hl 1 rfl) ?_
  refine g_lald hx hb hK hG 2 (by decide) hsP2 (j := j) (by omega) (by decide) dP_upper_5 ?_
  exact g_lret hQ hx hb hr hlk hG hK hS (by decide) (by decide) ⟨by first | rfl | omega | (simp_all; done) | grind, rfl⟩ dP_upper_6

abbrev rmP_lower : Room := { frames := 0, cells := 0, slots := 0, locals := 0 }
set_option maxRecDepth 100000 in
set_option maxHeartbeats 4000000 in
theorem kP_lower {l : Launch} {D : va_G} {k : ClassId × ClassId × ClassId} {a : Nat → Nat} {B0 : Nat} {w : Nat → va_E} (hA : gA B0 a) {n : Nat} {up : Nat → Int64} {lo : Nat → Int64} {fa : Nat → Int32} {we : Nat → Int32} {ti : Nat → Int32} {ri : Nat → Int32} {jo : Nat → Int32} (hsP : sP k a w n up lo fa we ti ri jo) (j : Nat) (hj : j < 12) : Met l yP_lower (tbw yP_lower cP_lower 2 (some .long)) rmP_lower (gPc D k a B0 w [.ref (a 1), .int (nI j)]) (va_Ql (roP (lo j) w) (gB D k a) (gF B0)) 0 0 (gF B0) := by
  obtain ⟨hsP1, hsP2, hsP3, hsP4, hsP5, hsP6, hsP7, hsP8⟩ := hsP
  refine g_ofW (by decide) rfl (fun p e s m args below meth c Q hQ hx hb hr hlk hml hown hts hB hG hK hS ls hl => ?_)
  have hl : lv_has ls 2 [(0, .ref (a 1)), (1, .int (nI j))] := hl
  have hown : s.vm.findClass RP = some m.cls := hown
  refine lv_aload_n hx hb dP_lower_0 rfl (lv_at hl 0 rfl) ?_
  refine g_get hx hb hts inP hown hK hG 1 (by decide) hsP1 rfl 1 (by decide) lkP_15 rfl dP_lower_1 ?_
  refine lv_iload_n hx hb dP_lower_4 rfl (lv_at hl 1 rfl) ?_
  refine g_lald hx hb hK hG 3 (by decide) hsP3 (j := j) (by omega) (by decide) dP_lower_5 ?_
  exact g_lret hQ hx hb hr hlk hG hK hS (by decide) (by decide) ⟨by first | rfl | omega | (simp_all; done) | grind, rfl⟩ dP_lower_6

abbrev rmP_isTold : Room := { frames := 0, cells := 0, slots := 0, locals := 0 }
set_option maxRecDepth 100000 in
set_option maxHeartbeats 4000000 in
theorem kP_isTold {l : Launch} {D : va_G} {k : ClassId × ClassId × ClassId} {a : Nat → Nat} {B0 : Nat} {w : Nat → va_E} (hA : gA B0 a) {n : Nat} {up : Nat → Int64} {lo : Nat → Int64} {fa : Nat → Int32} {we : Nat → Int32} {ti : Nat → Int32} {ri : Nat → Int32} {jo : Nat → Int32} (hsP : sP k a w n up lo fa we ti ri jo) (j : Nat) (hj : j < 12) : Met l yP_isTold (tbw yP_isTold cP_isTold 2 (some .boolean)) rmP_isTold (gPc D k a B0 w [.ref (a 1), .int (nI j)]) (va_Qi (roP (b2i (0 < lo j)) w) (gB D k a) (gF B0)) 0 0 (gF B0) := by
  obtain ⟨hsP1, hsP2, hsP3, hsP4, hsP5, hsP6, hsP7, hsP8⟩ := hsP
  refine g_ofW (by decide) rfl (fun p e s m args below meth c Q hQ hx hb hr hlk hml hown hts hB hG hK hS ls hl => ?_)
  have hl : lv_has ls 2 [(0, .ref (a 1)), (1, .int (nI j))] := hl
  have hown : s.vm.findClass RP = some m.cls := hown
  refine lv_aload_n hx hb dP_isTold_0 rfl (lv_at hl 0 rfl) ?_
  refine g_get hx hb hts inP hown hK hG 1 (by decide) hsP1 rfl 1 (by decide) lkP_15 rfl dP_isTold_1 ?_
  refine lv_iload_n hx hb dP_isTold_4 rfl (lv_at hl 1 rfl) ?_
  refine g_lald hx hb hK hG 3 (by decide) hsP3 (j := j) (by omega) (by decide) dP_isTold_5 ?_
  refine lv_lconst (v := 0) hx hb dP_isTold_6 (by decide) ?_
  refine W.lcmp hx hb dP_isTold_7 ?_
  refine lc_if_le (tgt := 15) hx hb dP_isTold_8 (by decide) (fun c1 => ?_) (fun c1 => ?_)
  · refine lv_iconst (v := 0) hx hb dP_isTold_15 (by decide) ?_
    exact g_zret hQ hx hb hr hlk hG hK hS (by decide) (by decide) (by decide) ⟨(b2i_f (by first | assumption | exact Int64.not_lt.mpr (by assumption))).symm, rfl⟩ dP_isTold_16
  · refine lv_iconst (v := 1) hx hb dP_isTold_11 (by decide) ?_
    refine lv_goto (tgt := 16) hx hb dP_isTold_12 (by decide) ?_
    exact g_zret hQ hx hb hr hlk hG hK hS (by decide) (by decide) (by decide) ⟨(b2i_t (by first | assumption | exact Int64.not_lt.mpr (by assumption))).symm, rfl⟩ dP_isTold_16

abbrev rmP_areJoined : Room := { frames := 0, cells := 0, slots := 0, locals := 0 }
set_option maxRecDepth 100000 in
set_option maxHeartbeats 4000000 in
theorem kP_areJoined {l : Launch} {D : va_G} {k : ClassId × ClassId × ClassId} {a : Nat → Nat} {B0 : Nat} {w : Nat → va_E} (hA : gA B0 a) {n : Nat} {up : Nat → Int64} {lo : Nat → Int64} {fa : Nat → Int32} {we : Nat → Int32} {ti : Nat → Int32} {ri : Nat → Int32} {jo : Nat → Int32} (hsP : sP k a w n up lo fa we ti ri jo) (j : Nat) (i : Nat) (hj : j < 12) (hi : i < 12) (hz : narrow .boolean (.int (jo (j * 12 + i))) = .int (jo (j * 12 + i))) : Met l yP_areJoined (tbw yP_areJoined cP_areJoined 3 (some .boolean)) rmP_areJoined (gPc D k a B0 w [.ref (a 1), .int (nI j), .int (nI i)]) (va_Qi (roP (jo (j * 12 + i)) w) (gB D k a) (gF B0)) 0 0 (gF B0) := by
  obtain ⟨hsP1, hsP2, hsP3, hsP4, hsP5, hsP6, hsP7, hsP8⟩ := hsP
  refine g_ofW (by decide) rfl (fun p e s m args below meth c Q hQ hx hb hr hlk hml hown hts hB hG hK hS ls hl => ?_)
  have hl : lv_has ls 3 [(0, .ref (a 1)), (1, .int (nI j)), (2, .int (nI i))] := hl
  have hown : s.vm.findClass RP = some m.cls := hown
  refine lv_aload_n hx hb dP_areJoined_0 rfl (lv_at hl 0 rfl) ?_
  refine g_get hx hb hts inP hown hK hG 1 (by decide) hsP1 rfl 6 (by decide) lkP_31 rfl dP_areJoined_1 ?_
  refine lv_iload_n hx hb dP_areJoined_4 rfl (lv_at hl 1 rfl) ?_
  refine lv_bipush (v := 12) hx hb dP_areJoined_5 (by decide) ?_
  refine ln_imul (x := j) (y := 12) hx hb dP_areJoined_7 ?_
  refine lv_iload_n hx hb dP_areJoined_8 rfl (lv_at hl 2 rfl) ?_
  refine ln_iadd (x := j * 12) (y := i) hx hb dP_areJoined_9 ?_
  refine g_zald hx hb hK hG 8 (by decide) hsP8 (j := (j * 12) + i) (by omega) (by decide) dP_areJoined_10 ?_
  exact g_zret hQ hx hb hr hlk hG hK hS (by decide) (by decide) hz ⟨by first | rfl | omega | (simp_all; done) | grind, rfl⟩ dP_areJoined_11

abbrev rmP_setJoined : Room := { frames := 0, cells := 0, slots := 0, locals := 0 }
set_option maxRecDepth 100000 in
set_option maxHeartbeats 4000000 in
theorem kP_setJoined {l : Launch} {D : va_G} {k : ClassId × ClassId × ClassId} {a : Nat → Nat} {B0 : Nat} {w : Nat → va_E} (hA : gA B0 a) {n : Nat} {up : Nat → Int64} {lo : Nat → Int64} {fa : Nat → Int32} {we : Nat → Int32} {ti : Nat → Int32} {ri : Nat → Int32} {jo : Nat → Int32} (hsP : sP k a w n up lo fa we ti ri jo) (j : Nat) (i : Nat) (P : Prop) (hj : j < 12) (hi : i < 12) : Met l yP_setJoined (tbw yP_setJoined cP_setJoined 4 none) rmP_setJoined (gPc D k a B0 w [.ref (a 1), .int (nI j), .int (nI i), .int (b2i P)]) (va_Qv (fun w1 => (sP k a w1 n up lo fa we ti ri (upd (upd jo (j * 12 + i) (b2i P)) (i * 12 + j) (b2i P))) ∧ ∀ z, z < 1 ∨ 8 < z → w1 z = w z) (gB D k a) (gF B0)) 0 0 (gF B0) := by
  obtain ⟨hsP1, hsP2, hsP3, hsP4, hsP5, hsP6, hsP7, hsP8⟩ := hsP
  refine g_ofW (by decide) rfl (fun p e s m args below meth c Q hQ hx hb hr hlk hml hown hts hB hG hK hS ls hl => ?_)
  have hl : lv_has ls 4 [(0, .ref (a 1)), (1, .int (nI j)), (2, .int (nI i)), (3, .int (b2i P))] := hl
  have hown : s.vm.findClass RP = some m.cls := hown
  have hfr0 : ∀ z, z < 1 ∨ 8 < z → w z = w z := fun _ _ => rfl
  refine lv_aload_n hx hb dP_setJoined_0 rfl (lv_at hl 0 rfl) ?_
  refine g_get hx hb hts inP hown hK hG 1 (by decide) hsP1 rfl 6 (by decide) lkP_31 rfl dP_setJoined_1 ?_
  refine lv_iload_n hx hb dP_setJoined_4 rfl (lv_at hl 1 rfl) ?_
  refine lv_bipush (v := 12) hx hb dP_setJoined_5 (by decide) ?_
  refine ln_imul (x := j) (y := 12) hx hb dP_setJoined_7 ?_
  refine lv_iload_n hx hb dP_setJoined_8 rfl (lv_at hl 2 rfl) ?_
  refine ln_iadd (x := j * 12) (y := i) hx hb dP_setJoined_9 ?_
  refine lv_iload_n hx hb dP_setJoined_10 rfl (lv_at hl 3 rfl) ?_
  refine g_zast hx hb hK hA hG hS 8 (by decide) hsP8 (j := (j * 12) + i) (by omega) (by decide) dP_setJoined_11 (fun H locs hG hS => ?_)
  obtain ⟨w1, hw2⟩ : ∃ zz9, zz9 = va_up w 8 (.inl (k.2.2, 144, .inl (upd jo ((j * 12) + i) (b2i P)))) := ⟨_, rfl⟩
  replace hG : gW D a w1 H := by rw [hw2]; exact hG
  have h3 : w1 1 = .inr (1, [.ref (a 2), .ref (a 3), .ref (a 4), .ref (a 5), .ref (a 6), .ref (a 7), .ref (a 8), .int (nI n)]) := by rw [hw2]; exact hsP1
  have h4 : w1 2 = .inl (k.2.1, 12, .inr (.inl up)) := by rw [hw2]; exact hsP2
  have h5 : w1 3 = .inl (k.2.1, 12, .inr (.inl lo)) := by rw [hw2]; exact hsP3
  have h6 : w1 4 = .inl (k.1, 12, .inl fa) := by rw [hw2]; exact hsP4
  have h7 : w1 5 = .inl (k.1, 72, .inl we) := by rw [hw2]; exact hsP5
  have h8 : w1 6 = .inl (k.1, 72, .inl ti) := by rw [hw2]; exact hsP6
  have h9 : w1 7 = .inl (k.1, 12, .inl ri) := by rw [hw2]; exact hsP7
  have h10 : w1 8 = .inl (k.2.2, 144, .inl (upd jo ((j * 12) + i) (b2i P))) := by rw [hw2]; rfl
  have hfr11 : ∀ z, z < 1 ∨ 8 < z → w1 z = w z := fun z hz => by rw [hw2]; exact (va_up_ne _ _ (by omega)).trans (hfr0 z hz)
  refine lv_aload_n hx hb dP_setJoined_12 rfl (lv_at hl 0 rfl) ?_
  refine g_get hx hb hts inP hown hK hG 1 (by decide) h3 rfl 6 (by decide) lkP_31 rfl dP_setJoined_13 ?_
  refine lv_iload_n hx hb dP_setJoined_16 rfl (lv_at hl 2 rfl) ?_
  refine lv_bipush (v := 12) hx hb dP_setJoined_17 (by decide) ?_
  refine ln_imul (x := i) (y := 12) hx hb dP_setJoined_19 ?_
  refine lv_iload_n hx hb dP_setJoined_20 rfl (lv_at hl 1 rfl) ?_
  refine ln_iadd (x := i * 12) (y := j) hx hb dP_setJoined_21 ?_
  refine lv_iload_n hx hb dP_setJoined_22 rfl (lv_at hl 3 rfl) ?_
  refine g_zast hx hb hK hA hG hS 8 (by decide) h10 (j := (i * 12) + j) (by omega) (by decide) dP_setJoined_23 (fun H locs hG hS => ?_)
  obtain ⟨w12, hw13⟩ : ∃ zz9, zz9 = va_up w1 8 (.inl (k.2.2, 144, .inl (upd (upd jo ((j * 12) + i) (b2i P)) ((i * 12) + j) (b2i P)))) := ⟨_, rfl⟩
  replace hG : gW D a w12 H := by rw [hw13]; exact hG
  have h14 : w12 1 = .inr (1, [.ref (a 2), .ref (a 3), .ref (a 4), .ref (a 5), .ref (a 6), .ref (a 7), .ref (a 8), .int (nI n)]) := by rw [hw13]; exact h3
  have h15 : w12 2 = .inl (k.2.1, 12, .inr (.inl up)) := by rw [hw13]; exact h4
  have h16 : w12 3 = .inl (k.2.1, 12, .inr (.inl lo)) := by rw [hw13]; exact h5
  have h17 : w12 4 = .inl (k.1, 12, .inl fa) := by rw [hw13]; exact h6
  have h18 : w12 5 = .inl (k.1, 72, .inl we) := by rw [hw13]; exact h7
  have h19 : w12 6 = .inl (k.1, 72, .inl ti) := by rw [hw13]; exact h8
  have h20 : w12 7 = .inl (k.1, 12, .inl ri) := by rw [hw13]; exact h9
  have h21 : w12 8 = .inl (k.2.2, 144, .inl (upd (upd jo ((j * 12) + i) (b2i P)) ((i * 12) + j) (b2i P))) := by rw [hw13]; rfl
  have hfr22 : ∀ z, z < 1 ∨ 8 < z → w12 z = w z := fun z hz => by rw [hw13]; exact (va_up_ne _ _ (by omega)).trans (hfr11 z hz)
  exact g_vret hQ hx hb hr hlk hG hK hS (by decide) (by decide) ⟨⟨h14, h15, h16, h17, h18, h19, h20, h21⟩, hfr22⟩ dP_setJoined_24

abbrev rmP_riserOf : Room := { frames := 0, cells := 0, slots := 0, locals := 0 }
set_option maxRecDepth 100000 in
set_option maxHeartbeats 4000000 in
theorem kP_riserOf {l : Launch} {D : va_G} {k : ClassId × ClassId × ClassId} {a : Nat → Nat} {B0 : Nat} {w : Nat → va_E} (hA : gA B0 a) {n : Nat} {up : Nat → Int64} {lo : Nat → Int64} {fa : Nat → Int32} {we : Nat → Int32} {ti : Nat → Int32} {ri : Nat → Int32} {jo : Nat → Int32} (hsP : sP k a w n up lo fa we ti ri jo) (j : Nat) (hj : j < 12) : Met l yP_riserOf (tbw yP_riserOf cP_riserOf 2 (some .int)) rmP_riserOf (gPc D k a B0 w [.ref (a 1), .int (nI j)]) (va_Qi (roP (ri j) w) (gB D k a) (gF B0)) 0 0 (gF B0) := by
  obtain ⟨hsP1, hsP2, hsP3, hsP4, hsP5, hsP6, hsP7, hsP8⟩ := hsP
  refine g_ofW (by decide) rfl (fun p e s m args below meth c Q hQ hx hb hr hlk hml hown hts hB hG hK hS ls hl => ?_)
  have hl : lv_has ls 2 [(0, .ref (a 1)), (1, .int (nI j))] := hl
  have hown : s.vm.findClass RP = some m.cls := hown
  refine lv_aload_n hx hb dP_riserOf_0 rfl (lv_at hl 0 rfl) ?_
  refine g_get hx hb hts inP hown hK hG 1 (by decide) hsP1 rfl 5 (by decide) lkP_28 rfl dP_riserOf_1 ?_
  refine lv_iload_n hx hb dP_riserOf_4 rfl (lv_at hl 1 rfl) ?_
  refine g_iald hx hb hK hG 7 (by decide) hsP7 (j := j) (by omega) (by decide) dP_riserOf_5 ?_
  exact g_iret hQ hx hb hr hlk hG hK hS (by decide) (by decide) ⟨by first | rfl | omega | (simp_all; done) | grind, rfl⟩ dP_riserOf_6

abbrev rmP_setRiser : Room := { frames := 0, cells := 0, slots := 0, locals := 0 }
set_option maxRecDepth 100000 in
set_option maxHeartbeats 4000000 in
theorem kP_setRiser {l : Launch} {D : va_G} {k : ClassId × ClassId × ClassId} {a : Nat → Nat} {B0 : Nat} {w : Nat → va_E} (hA : gA B0 a) {n : Nat} {up : Nat → Int64} {lo : Nat → Int64} {fa : Nat → Int32} {we : Nat → Int32} {ti : Nat → Int32} {ri : Nat → Int32} {jo : Nat → Int32} (hsP : sP k a w n up lo fa we ti ri jo) (j : Nat) (q : Int32) (hj : j < 12) : Met l yP_setRiser (tbw yP_setRiser cP_setRiser 3 none) rmP_setRiser (gPc D k a B0 w [.ref (a 1), .int (nI j), .int q]) (va_Qv (fun w1 => (sP k a w1 n up lo fa we ti (upd ri j q) jo) ∧ ∀ z, z < 1 ∨ 8 < z → w1 z = w z) (gB D k a) (gF B0)) 0 0 (gF B0) := by
  obtain ⟨hsP1, hsP2, hsP3, hsP4, hsP5, hsP6, hsP7, hsP8⟩ := hsP
  refine g_ofW (by decide) rfl (fun p e s m args below meth c Q hQ hx hb hr hlk hml hown hts hB hG hK hS ls hl => ?_)
  have hl : lv_has ls 3 [(0, .ref (a 1)), (1, .int (nI j)), (2, .int q)] := hl
  have hown : s.vm.findClass RP = some m.cls := hown
  have hfr0 : ∀ z, z < 1 ∨ 8 < z → w z = w z := fun _ _ => rfl
  refine lv_aload_n hx hb dP_setRiser_0 rfl (lv_at hl 0 rfl) ?_
  refine g_get hx hb hts inP hown hK hG 1 (by decide) hsP1 rfl 5 (by decide) lkP_28 rfl dP_setRiser_1 ?_
  refine lv_iload_n hx hb dP_setRiser_4 rfl (lv_at hl 1 rfl) ?_
  refine lv_iload_n hx hb dP_setRiser_5 rfl (lv_at hl 2 rfl) ?_
  refine g_iast hx hb hK hA hG hS 7 (by decide) hsP7 (j := j) (by omega) (by decide) dP_setRiser_6 (fun H locs hG hS => ?_)
  obtain ⟨w1, hw2⟩ : ∃ zz9, zz9 = va_up w 7 (.inl (k.1, 12, .inl (upd ri j q))) := ⟨_, rfl⟩
  replace hG : gW D a w1 H := by rw [hw2]; exact hG
  have h3 : w1 1 = .inr (1, [.ref (a 2), .ref (a 3), .ref (a 4), .ref (a 5), .ref (a 6), .ref (a 7), .ref (a 8), .int (nI n)]) := by rw [hw2]; exact hsP1
  have h4 : w1 2 = .inl (k.2.1, 12, .inr (.inl up)) := by rw [hw2]; exact hsP2
  have h5 : w1 3 = .inl (k.2.1, 12, .inr (.inl lo)) := by rw [hw2]; exact hsP3
  have h6 : w1 4 = .inl (k.1, 12, .inl fa) := by rw [hw2]; exact hsP4
  have h7 : w1 5 = .inl (k.1, 72, .inl we) := by rw [hw2]; exact hsP5
  have h8 : w1 6 = .inl (k.1, 72, .inl ti) := by rw [hw2]; exact hsP6
  have h9 : w1 7 = .inl (k.1, 12, .inl (upd ri j q)) := by rw [hw2]; rfl
  have h10 : w1 8 = .inl (k.2.2, 144, .inl jo) := by rw [hw2]; exact hsP8
  have hfr11 : ∀ z, z < 1 ∨ 8 < z → w1 z = w z := fun z hz => by rw [hw2]; exact (va_up_ne _ _ (by omega)).trans (hfr0 z hz)
  exact g_vret hQ hx hb hr hlk hG hK hS (by decide) (by decide) ⟨⟨h3, h4, h5, h6, h7, h8, h9, h10⟩, hfr11⟩ dP_setRiser_7

abbrev rmP_addBox : Room := { frames := 2, cells := 0, slots := 0, locals := 47 }
set_option maxRecDepth 100000 in
set_option maxHeartbeats 4000000 in
theorem kP_addBox {l : Launch} {D : va_G} {k : ClassId × ClassId × ClassId} {a : Nat → Nat} {B0 : Nat} {w : Nat → va_E} (hA : gA B0 a) {n : Nat} {up : Nat → Int64} {lo : Nat → Int64} {fa : Nat → Int32} {we : Nat → Int32} {ti : Nat → Int32} {ri : Nat → Int32} {jo : Nat → Int32} (hsP : sP k a w n up lo fa we ti ri jo) (x : Int32) (y : Int32) (z : Int32) (hn : n < 12) : Met l yP_addBox (tbw yP_addBox cP_addBox 5 (some .int)) rmP_addBox (gPc D k a B0 w [.ref (a 1), .int x, .int y, .int z]) (va_Qi (fun rr9 w1 => ∃ (up' : Nat → Int64) (lo' : Nat → Int64) (fa' : Nat → Int32) (we' : Nat → Int32) (ti' : Nat → Int32) (ri' : Nat → Int32), rr9 = (nI n) ∧ (sP k a w1 (n + 1) up' lo' fa' we' ti' ri' jo) ∧ (up' = vp_updL up n (x.toInt64 * y.toInt64 * z.toInt64) ∧ fa' = upd fa n 6 ∧ ri' = upd ri n (-1) ∧ adB n 6 (qB x y z) lo we ti lo' we' ti') ∧ ∀ z, z < 1 ∨ 8 < z → w1 z = w z) (gB D k a) (gF B0)) 0 0 (gF B0) := by
  obtain ⟨hsP1, hsP2, hsP3, hsP4, hsP5, hsP6, hsP7, hsP8⟩ := hsP
  refine g_ofW (by decide) rfl (fun p e s m args below meth c Q hQ hx hb hr hlk hml hown hts hB hG hK hS ls hl => ?_)
  have hl : lv_has ls 5 [(0, .ref (a 1)), (1, .int x), (2, .int y), (3, .int z)] := hl
  have hown : s.vm.findClass RP = some m.cls := hown
  have hfr0 : ∀ z, z < 1 ∨ 8 < z → w z = w z := fun _ _ => rfl
  refine lv_aload_n hx hb dP_addBox_0 rfl (lv_at hl 0 rfl) ?_
  refine lv_bipush (v := 6) hx hb dP_addBox_1 (by decide) ?_
  refine lv_iload_n hx hb dP_addBox_3 rfl (lv_at hl 1 rfl) ?_
  refine lv_i2l hx hb dP_addBox_4 rfl ?_
  refine lv_iload_n hx hb dP_addBox_5 rfl (lv_at hl 2 rfl) ?_
  refine lv_i2l hx hb dP_addBox_6 rfl ?_
  refine lv_lmul hx hb dP_addBox_7 ?_
  refine lv_iload_n hx hb dP_addBox_8 rfl (lv_at hl 3 rfl) ?_
  refine lv_i2l hx hb dP_addBox_9 rfl ?_
  refine lv_lmul hx hb dP_addBox_10 ?_
  refine g_Vi (i := 1) (As := [.int 6, .long ((x.toInt64 * y.toInt64) * z.toInt64)]) (rest := []) (kP_open hA ⟨hsP1, hsP2, hsP3, hsP4, hsP5, hsP6, hsP7, hsP8⟩ 6 ((x.toInt64 * y.toInt64) * z.toInt64) (by omega)) calP_open cvP_open mlP_39 hx hb hml hown hts hB hG hK hS (by decide) hsP1 rfl ⟨by decide, by decide⟩ rfl hl.1 rfl (Nat.le_of_ble_eq_true rfl) dP_addBox_11 ⟨by decide, by decide⟩ (fun r1 w2 H locs hp3 hG hS => ?_)
  obtain ⟨er12, ⟨h4, h5, h6, h7, h8, h9, h10, h11⟩, hfr13⟩ := hp3
  have hfr14 : ∀ z, z < 1 ∨ 8 < z → w2 z = w z := fun z hz => (hfr13 z (by omega)).trans (hfr0 z hz)
  obtain ⟨z15, ez16⟩ : ∃ zz9, zz9 = (vp_updL up n ((x.toInt64 * y.toInt64) * z.toInt64)) := ⟨_, rfl⟩
  rw [← ez16] at h5
  obtain ⟨z17, ez18⟩ : ∃ zz9, zz9 = (upd fa n 6) := ⟨_, rfl⟩
  rw [← ez18] at h7
  obtain ⟨z19, ez20⟩ : ∃ zz9, zz9 = (upd ri n (-1)) := ⟨_, rfl⟩
  rw [← ez20] at h10
  rw [er12]
  refine lv_istore (lv' := [(4, .int (nI n)), (0, .ref (a 1)), (1, .int x), (2, .int y), (3, .int z)]) hx hb dP_addBox_14 hl (by decide) rfl (fun ls hl => ?_)
  refine lv_aload_n hx hb dP_addBox_16 rfl (lv_at hl 1 rfl) ?_
  refine lv_iload hx hb dP_addBox_17 (lv_at hl 0 rfl) ?_
  refine lv_iconst (v := 0) hx hb dP_addBox_19 (by decide) ?_
  refine lv_iload_n hx hb dP_addBox_20 rfl (lv_at hl 3 rfl) ?_
  refine lv_iload_n hx hb dP_addBox_21 rfl (lv_at hl 4 rfl) ?_
  refine lv_imul hx hb dP_addBox_22 ?_
  refine g_Vv (i := 1) (As := [.int (nI n), .int 0, .int (y * z)]) (rest := []) (kP_addFace hA ⟨h4, h5, h6, h7, h8, h9, h10, h11⟩ n 0 (y * z) (by omega) (by omega)) calP_addFace cvP_addFace mlP_43 hx hb hml hown hts hB hG hK hS (by decide) h4 rfl ⟨by decide, by decide⟩ rfl hl.1 rfl (Nat.le_of_ble_eq_true rfl) dP_addBox_23 ⟨by decide, by decide⟩ (fun w22 H locs hp23 hG hS => ?_)
  obtain ⟨⟨h24, h25, h26, h27, h28, h29, h30, h31⟩, hfr33⟩ := hp23
  have hfr34 : ∀ z, z < 1 ∨ 8 < z → w22 z = w z := fun z hz => (hfr33 z (by omega)).trans (hfr14 z hz)
  obtain ⟨z35, ez36⟩ : ∃ zz9, zz9 = (vp_updL lo n (lo n + (y * z).toInt64 * (1 - ti (n * 6 + 0)).toInt64)) := ⟨_, rfl⟩
  rw [← ez36] at h26
  obtain ⟨z37, ez38⟩ : ∃ zz9, zz9 = (upd we (n * 6 + 0) (y * z)) := ⟨_, rfl⟩
  rw [← ez38] at h28
  obtain ⟨z39, ez40⟩ : ∃ zz9, zz9 = (upd ti (n * 6 + 0) 1) := ⟨_, rfl⟩
  rw [← ez40] at h29
  refine lv_aload_n hx hb dP_addBox_26 rfl (lv_at hl 1 rfl) ?_
  refine lv_iload hx hb dP_addBox_27 (lv_at hl 0 rfl) ?_
  refine lv_iconst (v := 1) hx hb dP_addBox_29 (by decide) ?_
  refine lv_iload_n hx hb dP_addBox_30 rfl (lv_at hl 3 rfl) ?_
  refine lv_iload_n hx hb dP_addBox_31 rfl (lv_at hl 4 rfl) ?_
  refine lv_imul hx hb dP_addBox_32 ?_
  refine g_Vv (i := 1) (As := [.int (nI n), .int 1, .int (y * z)]) (rest := []) (kP_addFace hA ⟨h24, h25, h26, h27, h28, h29, h30, h31⟩ n 1 (y * z) (by omega) (by omega)) calP_addFace cvP_addFace mlP_43 hx hb hml hown hts hB hG hK hS (by decide) h24 rfl ⟨by decide, by decide⟩ rfl hl.1 rfl (Nat.le_of_ble_eq_true rfl) dP_addBox_33 ⟨by decide, by decide⟩ (fun w42 H locs hp43 hG hS => ?_)
  obtain ⟨⟨h44, h45, h46, h47, h48, h49, h50, h51⟩, hfr53⟩ := hp43
  have hfr54 : ∀ z, z < 1 ∨ 8 < z → w42 z = w z := fun z hz => (hfr53 z (by omega)).trans (hfr34 z hz)
  obtain ⟨z55, ez56⟩ : ∃ zz9, zz9 = (vp_updL z35 n (z35 n + (y * z).toInt64 * (1 - z39 (n * 6 + 1)).toInt64)) := ⟨_, rfl⟩
  rw [← ez56] at h46
  obtain ⟨z57, ez58⟩ : ∃ zz9, zz9 = (upd z37 (n * 6 + 1) (y * z)) := ⟨_, rfl⟩
  rw [← ez58] at h48
  obtain ⟨z59, ez60⟩ : ∃ zz9, zz9 = (upd z39 (n * 6 + 1) 1) := ⟨_, rfl⟩
  rw [← ez60] at h49
  refine lv_aload_n hx hb dP_addBox_36 rfl (lv_at hl 1 rfl) ?_
  refine lv_iload hx hb dP_addBox_37 (lv_at hl 0 rfl) ?_
  refine lv_iconst (v := 2) hx hb dP_addBox_39 (by decide) ?_
  refine lv_iload_n hx hb dP_addBox_40 rfl (lv_at hl 2 rfl) ?_
  refine lv_iload_n hx hb dP_addBox_41 rfl (lv_at hl 4 rfl) ?_
  refine lv_imul hx hb dP_addBox_42 ?_
  refine g_Vv (i := 1) (As := [.int (nI n), .int 2, .int (x * z)]) (rest := []) (kP_addFace hA ⟨h44, h45, h46, h47, h48, h49, h50, h51⟩ n 2 (x * z) (by omega) (by omega)) calP_addFace cvP_addFace mlP_43 hx hb hml hown hts hB hG hK hS (by decide) h44 rfl ⟨by decide, by decide⟩ rfl hl.1 rfl (Nat.le_of_ble_eq_true rfl) dP_addBox_43 ⟨by decide, by decide⟩ (fun w62 H locs hp63 hG hS => ?_)
  obtain ⟨⟨h64, h65, h66, h67, h68, h69, h70, h71⟩, hfr73⟩ := hp63
  have hfr74 : ∀ z, z < 1 ∨ 8 < z → w62 z = w z := fun z hz => (hfr73 z (by omega)).trans (hfr54 z hz)
  obtain ⟨z75, ez76⟩ : ∃ zz9, zz9 = (vp_updL z55 n (z55 n + (x * z).toInt64 * (1 - z59 (n * 6 + 2)).toInt64)) := ⟨_, rfl⟩
  rw [← ez76] at h66
  obtain ⟨z77, ez78⟩ : ∃ zz9, zz9 = (upd z57 (n * 6 + 2) (x * z)) := ⟨_, rfl⟩
  rw [← ez78] at h68
  obtain ⟨z79, ez80⟩ : ∃ zz9, zz9 = (upd z59 (n * 6 + 2) 1) := ⟨_, rfl⟩
  rw [← ez80] at h69
  refine lv_aload_n hx hb dP_addBox_46 rfl (lv_at hl 1 rfl) ?_
  refine lv_iload hx hb dP_addBox_47 (lv_at hl 0 rfl) ?_
  refine lv_iconst (v := 3) hx hb dP_addBox_49 (by decide) ?_
  refine lv_iload_n hx hb dP_addBox_50 rfl (lv_at hl 2 rfl) ?_
  refine lv_iload_n hx hb dP_addBox_51 rfl (lv_at hl 4 rfl) ?_
  refine lv_imul hx hb dP_addBox_52 ?_
  refine g_Vv (i := 1) (As := [.int (nI n), .int 3, .int (x * z)]) (rest := []) (kP_addFace hA ⟨h64, h65, h66, h67, h68, h69, h70, h71⟩ n 3 (x * z) (by omega) (by omega)) calP_addFace cvP_addFace mlP_43 hx hb hml hown hts hB hG hK hS (by decide) h64 rfl ⟨by decide, by decide⟩ rfl hl.1 rfl (Nat.le_of_ble_eq_true rfl) dP_addBox_53 ⟨by decide, by decide⟩ (fun w82 H locs hp83 hG hS => ?_)
  obtain ⟨⟨h84, h85, h86, h87, h88, h89, h90, h91⟩, hfr93⟩ := hp83
  have hfr94 : ∀ z, z < 1 ∨ 8 < z → w82 z = w z := fun z hz => (hfr93 z (by omega)).trans (hfr74 z hz)
  obtain ⟨z95, ez96⟩ : ∃ zz9, zz9 = (vp_updL z75 n (z75 n + (x * z).toInt64 * (1 - z79 (n * 6 + 3)).toInt64)) := ⟨_, rfl⟩
  rw [← ez96] at h86
  obtain ⟨z97, ez98⟩ : ∃ zz9, zz9 = (upd z77 (n * 6 + 3) (x * z)) := ⟨_, rfl⟩
  rw [← ez98] at h88
  obtain ⟨z99, ez100⟩ : ∃ zz9, zz9 = (upd z79 (n * 6 + 3) 1) := ⟨_, rfl⟩
  rw [← ez100] at h89
  refine lv_aload_n hx hb dP_addBox_56 rfl (lv_at hl 1 rfl) ?_
  refine lv_iload hx hb dP_addBox_57 (lv_at hl 0 rfl) ?_
  refine lv_iconst (v := 4) hx hb dP_addBox_59 (by decide) ?_
  refine lv_iload_n hx hb dP_addBox_60 rfl (lv_at hl 2 rfl) ?_
  refine lv_iload_n hx hb dP_addBox_61 rfl (lv_at hl 3 rfl) ?_
  refine lv_imul hx hb dP_addBox_62 ?_
  refine g_Vv (i := 1) (As := [.int (nI n), .int 4, .int (x * y)]) (rest := []) (kP_addFace hA ⟨h84, h85, h86, h87, h88, h89, h90, h91⟩ n 4 (x * y) (by omega) (by omega)) calP_addFace cvP_addFace mlP_43 hx hb hml hown hts hB hG hK hS (by decide) h84 rfl ⟨by decide, by decide⟩ rfl hl.1 rfl (Nat.le_of_ble_eq_true rfl) dP_addBox_63 ⟨by decide, by decide⟩ (fun w102 H locs hp103 hG hS => ?_)
  obtain ⟨⟨h104, h105, h106, h107, h108, h109, h110, h111⟩, hfr113⟩ := hp103
  have hfr114 : ∀ z, z < 1 ∨ 8 < z → w102 z = w z := fun z hz => (hfr113 z (by omega)).trans (hfr94 z hz)
  obtain ⟨z115, ez116⟩ : ∃ zz9, zz9 = (vp_updL z95 n (z95 n + (x * y).toInt64 * (1 - z99 (n * 6 + 4)).toInt64)) := ⟨_, rfl⟩
  rw [← ez116] at h106
  obtain ⟨z117, ez118⟩ : ∃ zz9, zz9 = (upd z97 (n * 6 + 4) (x * y)) := ⟨_, rfl⟩
  rw [← ez118] at h108
  obtain ⟨z119, ez120⟩ : ∃ zz9, zz9 = (upd z99 (n * 6 + 4) 1) := ⟨_, rfl⟩
  rw [← ez120] at h109
  refine lv_aload_n hx hb dP_addBox_66 rfl (lv_at hl 1 rfl) ?_
  refine lv_iload hx hb dP_addBox_67 (lv_at hl 0 rfl) ?_
  refine lv_iconst (v := 5) hx hb dP_addBox_69 (by decide) ?_
  refine lv_iload_n hx hb dP_addBox_70 rfl (lv_at hl 2 rfl) ?_
  refine lv_iload_n hx hb dP_addBox_71 rfl (lv_at hl 3 rfl) ?_
  refine lv_imul hx hb dP_addBox_72 ?_
  refine g_Vv (i := 1) (As := [.int (nI n), .int 5, .int (x * y)]) (rest := []) (kP_addFace hA ⟨h104, h105, h106, h107, h108, h109, h110, h111⟩ n 5 (x * y) (by omega) (by omega)) calP_addFace cvP_addFace mlP_43 hx hb hml hown hts hB hG hK hS (by decide) h104 rfl ⟨by decide, by decide⟩ rfl hl.1 rfl (Nat.le_of_ble_eq_true rfl) dP_addBox_73 ⟨by decide, by decide⟩ (fun w122 H locs hp123 hG hS => ?_)
  obtain ⟨⟨h124, h125, h126, h127, h128, h129, h130, h131⟩, hfr133⟩ := hp123
  have hfr134 : ∀ z, z < 1 ∨ 8 < z → w122 z = w z := fun z hz => (hfr133 z (by omega)).trans (hfr114 z hz)
  obtain ⟨z135, ez136⟩ : ∃ zz9, zz9 = (vp_updL z115 n (z115 n + (x * y).toInt64 * (1 - z119 (n * 6 + 5)).toInt64)) := ⟨_, rfl⟩
  rw [← ez136] at h126
  obtain ⟨z137, ez138⟩ : ∃ zz9, zz9 = (upd z117 (n * 6 + 5) (x * y)) := ⟨_, rfl⟩
  rw [← ez138] at h128
  obtain ⟨z139, ez140⟩ : ∃ zz9, zz9 = (upd z119 (n * 6 + 5) 1) := ⟨_, rfl⟩
  rw [← ez140] at h129
  refine lv_iload hx hb dP_addBox_76 (lv_at hl 0 rfl) ?_
  exact g_iret hQ hx hb hr hlk hG hK hS (by decide) (by decide) ⟨z15, z135, z17, z137, z139, z19, by first | rfl | omega | (simp_all; done) | grind, ⟨h124, h125, h126, h127, h128, h129, h130, h131⟩, ⟨ez16, ez18, ez20, (adB_s (adB_s (adB_s (adB_s (adB_s (adB_s (adB_0 n (qB x y z) lo we ti) ez38 ez40 ez36) ez58 ez60 ez56) ez78 ez80 ez76) ez98 ez100 ez96) ez118 ez120 ez116) ez138 ez140 ez136)⟩, hfr134⟩ dP_addBox_78

abbrev rmP_addCylinder : Room := { frames := 2, cells := 0, slots := 0, locals := 47 }
set_option maxRecDepth 100000 in
set_option maxHeartbeats 4000000 in
theorem kP_addCylinder {l : Launch} {D : va_G} {k : ClassId × ClassId × ClassId} {a : Nat → Nat} {B0 : Nat} {w : Nat → va_E} (hA : gA B0 a) {n : Nat} {up : Nat → Int64} {lo : Nat → Int64} {fa : Nat → Int32} {we : Nat → Int32} {ti : Nat → Int32} {ri : Nat → Int32} {jo : Nat → Int32} (hsP : sP k a w n up lo fa we ti ri jo) (x : Int32) (y : Int32) (hn : n < 12) : Met l yP_addCylinder (tbw yP_addCylinder cP_addCylinder 4 (some .int)) rmP_addCylinder (gPc D k a B0 w [.ref (a 1), .int x, .int y]) (va_Qi (fun rr9 w1 => ∃ (up' : Nat → Int64) (lo' : Nat → Int64) (fa' : Nat → Int32) (we' : Nat → Int32) (ti' : Nat → Int32) (ri' : Nat → Int32), rr9 = (nI n) ∧ (sP k a w1 (n + 1) up' lo' fa' we' ti' ri' jo) ∧ (up' = vp_updL up n (x.toInt64 * y.toInt64) ∧ fa' = upd fa n 3 ∧ ri' = upd ri n (-1) ∧ adB n 3 (qC x y) lo we ti lo' we' ti') ∧ ∀ z, z < 1 ∨ 8 < z → w1 z = w z) (gB D k a) (gF B0)) 0 0 (gF B0) := by
  obtain ⟨hsP1, hsP2, hsP3, hsP4, hsP5, hsP6, hsP7, hsP8⟩ := hsP
  refine g_ofW (by decide) rfl (fun p e s m args below meth c Q hQ hx hb hr hlk hml hown hts hB hG hK hS ls hl => ?_)
  have hl : lv_has ls 4 [(0, .ref (a 1)), (1, .int x), (2, .int y)] := hl
  have hown : s.vm.findClass RP = some m.cls := hown
  have hfr0 : ∀ z, z < 1 ∨ 8 < z → w z = w z := fun _ _ => rfl
  refine lv_aload_n hx hb dP_addCylinder_0 rfl (lv_at hl 0 rfl) ?_
  refine lv_iconst (v := 3) hx hb dP_addCylinder_1 (by decide) ?_
  refine lv_iload_n hx hb dP_addCylinder_2 rfl (lv_at hl 1 rfl) ?_
  refine lv_i2l hx hb dP_addCylinder_3 rfl ?_
  refine lv_iload_n hx hb dP_addCylinder_4 rfl (lv_at hl 2 rfl) ?_
  refine lv_i2l hx hb dP_addCylinder_5 rfl ?_
  refine lv_lmul hx hb dP_addCylinder_6 ?_
  refine g_Vi (i := 1) (As := [.int 3, .long (x.toInt64 * y.toInt64)]) (rest := []) (kP_open hA ⟨hsP1, hsP2, hsP3, hsP4, hsP5, hsP6, hsP7, hsP8⟩ 3 (x.toInt64 * y.toInt64) (by omega)) calP_open cvP_open mlP_39 hx hb hml hown hts hB hG hK hS (by decide) hsP1 rfl ⟨by decide, by decide⟩ rfl hl.1 rfl (Nat.le_of_ble_eq_true rfl) dP_addCylinder_7 ⟨by decide, by decide⟩ (fun r1 w2 H locs hp3 hG hS => ?_)
  obtain ⟨er12, ⟨h4, h5, h6, h7, h8, h9, h10, h11⟩, hfr13⟩ := hp3
  have hfr14 : ∀ z, z < 1 ∨ 8 < z → w2 z = w z := fun z hz => (hfr13 z (by omega)).trans (hfr0 z hz)
  obtain ⟨z15, ez16⟩ : ∃ zz9, zz9 = (vp_updL up n (x.toInt64 * y.toInt64)) := ⟨_, rfl⟩
  rw [← ez16] at h5
  obtain ⟨z17, ez18⟩ : ∃ zz9, zz9 = (upd fa n 3) := ⟨_, rfl⟩
  rw [← ez18] at h7
  obtain ⟨z19, ez20⟩ : ∃ zz9, zz9 = (upd ri n (-1)) := ⟨_, rfl⟩
  rw [← ez20] at h10
  rw [er12]
  refine lv_istore_n (lv' := [(3, .int (nI n)), (0, .ref (a 1)), (1, .int x), (2, .int y)]) hx hb dP_addCylinder_10 rfl hl (by decide) rfl (fun ls hl => ?_)
  refine lv_aload_n hx hb dP_addCylinder_11 rfl (lv_at hl 1 rfl) ?_
  refine lv_iload_n hx hb dP_addCylinder_12 rfl (lv_at hl 0 rfl) ?_
  refine lv_iconst (v := 0) hx hb dP_addCylinder_13 (by decide) ?_
  refine lv_iconst (v := 4) hx hb dP_addCylinder_14 (by decide) ?_
  refine lv_iload_n hx hb dP_addCylinder_15 rfl (lv_at hl 3 rfl) ?_
  refine lv_imul hx hb dP_addCylinder_16 ?_
  refine g_Vv (i := 1) (As := [.int (nI n), .int 0, .int (4 * y)]) (rest := []) (kP_addFace hA ⟨h4, h5, h6, h7, h8, h9, h10, h11⟩ n 0 (4 * y) (by omega) (by omega)) calP_addFace cvP_addFace mlP_43 hx hb hml hown hts hB hG hK hS (by decide) h4 rfl ⟨by decide, by decide⟩ rfl hl.1 rfl (Nat.le_of_ble_eq_true rfl) dP_addCylinder_17 ⟨by decide, by decide⟩ (fun w22 H locs hp23 hG hS => ?_)
  obtain ⟨⟨h24, h25, h26, h27, h28, h29, h30, h31⟩, hfr33⟩ := hp23
  have hfr34 : ∀ z, z < 1 ∨ 8 < z → w22 z = w z := fun z hz => (hfr33 z (by omega)).trans (hfr14 z hz)
  obtain ⟨z35, ez36⟩ : ∃ zz9, zz9 = (vp_updL lo n (lo n + (4 * y).toInt64 * (1 - ti (n * 6 + 0)).toInt64)) := ⟨_, rfl⟩
  rw [← ez36] at h26
  obtain ⟨z37, ez38⟩ : ∃ zz9, zz9 = (upd we (n * 6 + 0) (4 * y)) := ⟨_, rfl⟩
  rw [← ez38] at h28
  obtain ⟨z39, ez40⟩ : ∃ zz9, zz9 = (upd ti (n * 6 + 0) 1) := ⟨_, rfl⟩
  rw [← ez40] at h29
  refine lv_aload_n hx hb dP_addCylinder_20 rfl (lv_at hl 1 rfl) ?_
  refine lv_iload_n hx hb dP_addCylinder_21 rfl (lv_at hl 0 rfl) ?_
  refine lv_iconst (v := 1) hx hb dP_addCylinder_22 (by decide) ?_
  refine lv_iload_n hx hb dP_addCylinder_23 rfl (lv_at hl 2 rfl) ?_
  refine g_Vv (i := 1) (As := [.int (nI n), .int 1, .int x]) (rest := []) (kP_addFace hA ⟨h24, h25, h26, h27, h28, h29, h30, h31⟩ n 1 x (by omega) (by omega)) calP_addFace cvP_addFace mlP_43 hx hb hml hown hts hB hG hK hS (by decide) h24 rfl ⟨by decide, by decide⟩ rfl hl.1 rfl (Nat.le_of_ble_eq_true rfl) dP_addCylinder_24 ⟨by decide, by decide⟩ (fun w42 H locs hp43 hG hS => ?_)
  obtain ⟨⟨h44, h45, h46, h47, h48, h49, h50, h51⟩, hfr53⟩ := hp43
  have hfr54 : ∀ z, z < 1 ∨ 8 < z → w42 z = w z := fun z hz => (hfr53 z (by omega)).trans (hfr34 z hz)
  obtain ⟨z55, ez56⟩ : ∃ zz9, zz9 = (vp_updL z35 n (z35 n + x.toInt64 * (1 - z39 (n * 6 + 1)).toInt64)) := ⟨_, rfl⟩
  rw [← ez56] at h46
  obtain ⟨z57, ez58⟩ : ∃ zz9, zz9 = (upd z37 (n * 6 + 1) x) := ⟨_, rfl⟩
  rw [← ez58] at h48
  obtain ⟨z59, ez60⟩ : ∃ zz9, zz9 = (upd z39 (n * 6 + 1) 1) := ⟨_, rfl⟩
  rw [← ez60] at h49
  refine lv_aload_n hx hb dP_addCylinder_27 rfl (lv_at hl 1 rfl) ?_
  refine lv_iload_n hx hb dP_addCylinder_28 rfl (lv_at hl 0 rfl) ?_
  refine lv_iconst (v := 2) hx hb dP_addCylinder_29 (by decide) ?_
  refine lv_iload_n hx hb dP_addCylinder_30 rfl (lv_at hl 2 rfl) ?_
  refine g_Vv (i := 1) (As := [.int (nI n), .int 2, .int x]) (rest := []) (kP_addFace hA ⟨h44, h45, h46, h47, h48, h49, h50, h51⟩ n 2 x (by omega) (by omega)) calP_addFace cvP_addFace mlP_43 hx hb hml hown hts hB hG hK hS (by decide) h44 rfl ⟨by decide, by decide⟩ rfl hl.1 rfl (Nat.le_of_ble_eq_true rfl) dP_addCylinder_31 ⟨by decide, by decide⟩ (fun w62 H locs hp63 hG hS => ?_)
  obtain ⟨⟨h64, h65, h66, h67, h68, h69, h70, h71⟩, hfr73⟩ := hp63
  have hfr74 : ∀ z, z < 1 ∨ 8 < z → w62 z = w z := fun z hz => (hfr73 z (by omega)).trans (hfr54 z hz)
  obtain ⟨z75, ez76⟩ : ∃ zz9, zz9 = (vp_updL z55 n (z55 n + x.toInt64 * (1 - z59 (n * 6 + 2)).toInt64)) := ⟨_, rfl⟩
  rw [← ez76] at h66
  obtain ⟨z77, ez78⟩ : ∃ zz9, zz9 = (upd z57 (n * 6 + 2) x) := ⟨_, rfl⟩
  rw [← ez78] at h68
  obtain ⟨z79, ez80⟩ : ∃ zz9, zz9 = (upd z59 (n * 6 + 2) 1) := ⟨_, rfl⟩
  rw [← ez80] at h69
  refine lv_iload_n hx hb dP_addCylinder_34 rfl (lv_at hl 0 rfl) ?_
  exact g_iret hQ hx hb hr hlk hG hK hS (by decide) (by decide) ⟨z15, z75, z17, z77, z79, z19, by first | rfl | omega | (simp_all; done) | grind, ⟨h64, h65, h66, h67, h68, h69, h70, h71⟩, ⟨ez16, ez18, ez20, (adB_s (adB_s (adB_s (adB_0 n (qC x y) lo we ti) ez38 ez40 ez36) ez58 ez60 ez56) ez78 ez80 ez76)⟩, hfr74⟩ dP_addCylinder_35
