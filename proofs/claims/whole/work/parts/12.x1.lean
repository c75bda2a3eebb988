abbrev rmX_requireRoomForPart : Room := { frames := 1, cells := 0, slots := 0, locals := 20 }
set_option maxRecDepth 100000 in
set_option maxHeartbeats 4000000 in
theorem kX_requireRoomForPart {l : Launch} {D : va_G} {k : ClassId × ClassId × ClassId} {a : Nat → Nat} {B0 : Nat} {w : Nat → va_E} (hA : gA B0 a) {n : Nat} {up : Nat → Int64} {lo : Nat → Int64} {fa : Nat → Int32} {we : Nat → Int32} {ti : Nat → Int32} {ri : Nat → Int32} {jo : Nat → Int32} (hsX : sX k a w ) (hsP : sP k a w n up lo fa we ti ri jo) (hn : n < 12) : Met l yX_requireRoomForPart (tbw yX_requireRoomForPart cX_requireRoomForPart 1 none) rmX_requireRoomForPart (gPc D k a B0 w [.ref (a 0)]) (va_Qv (roV w) (gB D k a) (gF B0)) 0 0 (gF B0) := by
  have hsX0 := hsX
  obtain ⟨hsP1, hsP2, hsP3, hsP4, hsP5, hsP6, hsP7, hsP8⟩ := hsP
  refine g_ofW (by decide) rfl (fun p e s m args below meth c Q hQ hx hb hr hlk hml hown hts hB hG hK hS ls hl => ?_)
  have hl : lv_has ls 1 [(0, .ref (a 0))] := hl
  have hown : s.vm.findClass RX = some m.cls := hown
  refine lv_aload_n hx hb dX_requireRoomForPart_0 rfl (lv_at hl 0 rfl) ?_
  refine g_get hx hb hts inX hown hK hG 0 (by decide) hsX0 rfl 0 (by decide) lkX_10 rfl dX_requireRoomForPart_1 ?_
  refine g_ViR (i := 1) (As := []) (rest := []) (kP_isFull hA ⟨hsP1, hsP2, hsP3, hsP4, hsP5, hsP6, hsP7, hsP8⟩ (by omega)) calP_isFull cvP_isFull mlX_216 hx hb hml hown hts hB hG hK hS (by decide) hsP1 rfl ⟨by decide, by decide⟩ rfl hl.1 rfl (Nat.le_of_ble_eq_true rfl) dX_requireRoomForPart_4 ⟨by decide, by decide⟩ (fun H locs hG hS => ?_)
  refine lb_if_eq (tgt := 20) hx hb dX_requireRoomForPart_7 (by decide) (fun c1 => ?_) (fun c1 => ?_)
  · exact g_vret hQ hx hb hr hlk hG hK hS (by decide) (by decide) ⟨trivial, rfl⟩ dX_requireRoomForPart_20
  · exfalso
    first | omega | contradiction | (simp_all; done) | grind

abbrev rmX_requireRoomForPart_b : Room := { frames := 6, cells := 1, slots := 6, locals := 82 }
set_option maxRecDepth 100000 in
set_option maxHeartbeats 4000000 in
theorem kX_requireRoomForPart_b {l : Launch} (hl9 : l.stackTraces = false) {D : va_G} {k : ClassId × ClassId × ClassId} {a : Nat → Nat} {B0 : Nat} {w : Nat → va_E} (hA : gA B0 a) {n : Nat} {up : Nat → Int64} {lo : Nat → Int64} {fa : Nat → Int32} {we : Nat → Int32} {ti : Nat → Int32} {ri : Nat → Int32} {jo : Nat → Int32} (hsX : sX k a w ) (hsP : sP k a w n up lo fa we ti ri jo) (hn : n = 12) : xMet l yX_requireRoomForPart cX_requireRoomForPart 1 none rmX_requireRoomForPart_b D k a B0 w [.ref (a 0)] eISE := by
  have hsX0 := hsX
  obtain ⟨hsP1, hsP2, hsP3, hsP4, hsP5, hsP6, hsP7, hsP8⟩ := hsP
  refine x_ofW (by decide) rfl (fun p e s m args below meth c Q hQ htab hx hb hr hlk hml hown hts hB hG hK hS hXS ls hl => ?_)
  have hl : lv_has ls 1 [(0, .ref (a 0))] := hl
  have hown : s.vm.findClass RX = some m.cls := hown
  refine lv_aload_n hx hb dX_requireRoomForPart_0 rfl (lv_at hl 0 rfl) ?_
  refine g_get hx hb hts inX hown hK hG 0 (by decide) hsX0 rfl 0 (by decide) lkX_10 rfl dX_requireRoomForPart_1 ?_
  refine g_ViR (i := 1) (As := []) (rest := []) (kP_isFull hA ⟨hsP1, hsP2, hsP3, hsP4, hsP5, hsP6, hsP7, hsP8⟩ (by omega)) calP_isFull cvP_isFull mlX_216 hx hb hml hown hts hB hG hK hS (by decide) hsP1 rfl ⟨by decide, by decide⟩ rfl hl.1 rfl (Nat.le_of_ble_eq_true rfl) dX_requireRoomForPart_4 ⟨by decide, by decide⟩ (fun H locs hG hS => ?_)
  refine lb_if_eq (tgt := 20) hx hb dX_requireRoomForPart_7 (by decide) (fun c1 => ?_) (fun c1 => ?_)
  · exfalso
    first | omega | contradiction | (simp_all; done) | grind
  · exact x_throw hQ hl9 xok_eISE (show ((217 : Nat), "there are 12 parts") ∈ xStr by decide +kernel) hx hb hml hown hts hG hK hS hXS hlk htab hl.1 dX_requireRoomForPart_10 dX_requireRoomForPart_13 dX_requireRoomForPart_14 dX_requireRoomForPart_16 dX_requireRoomForPart_19 (by decide) (by decide) (by decide) (by decide) (by decide) (by decide)

abbrev rmX_requirePart : Room := { frames := 1, cells := 0, slots := 0, locals := 21 }
set_option maxRecDepth 100000 in
set_option maxHeartbeats 4000000 in
theorem kX_requirePart {l : Launch} {D : va_G} {k : ClassId × ClassId × ClassId} {a : Nat → Nat} {B0 : Nat} {w : Nat → va_E} (hA : gA B0 a) {n : Nat} {up : Nat → Int64} {lo : Nat → Int64} {fa : Nat → Int32} {we : Nat → Int32} {ti : Nat → Int32} {ri : Nat → Int32} {jo : Nat → Int32} (hsX : sX k a w ) (hsP : sP k a w n up lo fa we ti ri jo) (j : Nat) (hj : j < n) (hn : n ≤ 12) : Met l yX_requirePart (tbw yX_requirePart cX_requirePart 2 none) rmX_requirePart (gPc D k a B0 w [.ref (a 0), .int (nI j)]) (va_Qv (roV w) (gB D k a) (gF B0)) 0 0 (gF B0) := by
  have hsX0 := hsX
  obtain ⟨hsP1, hsP2, hsP3, hsP4, hsP5, hsP6, hsP7, hsP8⟩ := hsP
  refine g_ofW (by decide) rfl (fun p e s m args below meth c Q hQ hx hb hr hlk hml hown hts hB hG hK hS ls hl => ?_)
  have hl : lv_has ls 2 [(0, .ref (a 0)), (1, .int (nI j))] := hl
  have hown : s.vm.findClass RX = some m.cls := hown
  refine lv_aload_n hx hb dX_requirePart_0 rfl (lv_at hl 0 rfl) ?_
  refine g_get hx hb hts inX hown hK hG 0 (by decide) hsX0 rfl 0 (by decide) lkX_10 rfl dX_requirePart_1 ?_
  refine lv_iload_n hx hb dX_requirePart_4 rfl (lv_at hl 1 rfl) ?_
  refine g_ViR (i := 1) (As := [.int (nI j)]) (rest := []) (kP_has hA ⟨hsP1, hsP2, hsP3, hsP4, hsP5, hsP6, hsP7, hsP8⟩ (nI j)) calP_has cvP_has mlX_211 hx hb hml hown hts hB hG hK hS (by decide) hsP1 rfl ⟨by decide, by decide⟩ rfl hl.1 rfl (Nat.le_of_ble_eq_true rfl) dX_requirePart_5 ⟨by decide, by decide⟩ (fun H locs hG hS => ?_)
  refine lb_if_ne (tgt := 21) hx hb dX_requirePart_8 (by decide) (fun c1 => ?_) (fun c1 => ?_)
  · exact g_vret hQ hx hb hr hlk hG hK hS (by decide) (by decide) ⟨trivial, rfl⟩ dX_requirePart_21
  · exfalso
    exact (by assumption : ¬ (¬ nI j < 0 ∧ ¬ nI n ≤ nI j)) ⟨nI_pos (by omega), nI_ge (by omega) (by omega)⟩

abbrev rmX_requirePart_b : Room := { frames := 6, cells := 1, slots := 6, locals := 82 }
set_option maxRecDepth 100000 in
set_option maxHeartbeats 4000000 in
theorem kX_requirePart_b {l : Launch} (hl9 : l.stackTraces = false) {D : va_G} {k : ClassId × ClassId × ClassId} {a : Nat → Nat} {B0 : Nat} {w : Nat → va_E} (hA : gA B0 a) {n : Nat} {up : Nat → Int64} {lo : Nat → Int64} {fa : Nat → Int32} {we : Nat → Int32} {ti : Nat → Int32} {ri : Nat → Int32} {jo : Nat → Int32} (hsX : sX k a w ) (hsP : sP k a w n up lo fa we ti ri jo) (q : Int32) (hq : ¬ (¬ q < 0 ∧ ¬ nI n ≤ q)) : xMet l yX_requirePart cX_requirePart 2 none rmX_requirePart_b D k a B0 w [.ref (a 0), .int q] eIOB := by
  have hsX0 := hsX
  obtain ⟨hsP1, hsP2, hsP3, hsP4, hsP5, hsP6, hsP7, hsP8⟩ := hsP
  refine x_ofW (by decide) rfl (fun p e s m args below meth c Q hQ htab hx hb hr hlk hml hown hts hB hG hK hS hXS ls hl => ?_)
  have hl : lv_has ls 2 [(0, .ref (a 0)), (1, .int q)] := hl
  have hown : s.vm.findClass RX = some m.cls := hown
  refine lv_aload_n hx hb dX_requirePart_0 rfl (lv_at hl 0 rfl) ?_
  refine g_get hx hb hts inX hown hK hG 0 (by decide) hsX0 rfl 0 (by decide) lkX_10 rfl dX_requirePart_1 ?_
  refine lv_iload_n hx hb dX_requirePart_4 rfl (lv_at hl 1 rfl) ?_
  refine g_ViR (i := 1) (As := [.int q]) (rest := []) (kP_has hA ⟨hsP1, hsP2, hsP3, hsP4, hsP5, hsP6, hsP7, hsP8⟩ q) calP_has cvP_has mlX_211 hx hb hml hown hts hB hG hK hS (by decide) hsP1 rfl ⟨by decide, by decide⟩ rfl hl.1 rfl (Nat.le_of_ble_eq_true rfl) dX_requirePart_5 ⟨by decide, by decide⟩ (fun H locs hG hS => ?_)
  refine lb_if_ne (tgt := 21) hx hb dX_requirePart_8 (by decide) (fun c1 => ?_) (fun c1 => ?_)
  · exfalso
    first | omega | contradiction | (simp_all; done) | grind
  · exact x_throw hQ hl9 xok_eIOB (show ((214 : Nat), "no such part") ∈ xStr by decide +kernel) hx hb hml hown hts hG hK hS hXS hlk htab hl.1 dX_requirePart_11 dX_requirePart_14 dX_requirePart_15 dX_requirePart_17 dX_requirePart_20 (by decide) (by decide) (by decide) (by decide) (by decide) (by decide)

abbrev rmX_requireTold : Room := { frames := 1, cells := 0, slots := 0, locals := 21 }
set_option maxRecDepth 100000 in
set_option maxHeartbeats 4000000 in
theorem kX_requireTold {l : Launch} {D : va_G} {k : ClassId × ClassId × ClassId} {a : Nat → Nat} {B0 : Nat} {w : Nat → va_E} (hA : gA B0 a) {n : Nat} {up : Nat → Int64} {lo : Nat → Int64} {fa : Nat → Int32} {we : Nat → Int32} {ti : Nat → Int32} {ri : Nat → Int32} {jo : Nat → Int32} (hsX : sX k a w ) (hsP : sP k a w n up lo fa we ti ri jo) (j : Nat) (hj : j < 12) (ht : 0 < lo j) : Met l yX_requireTold (tbw yX_requireTold cX_requireTold 2 none) rmX_requireTold (gPc D k a B0 w [.ref (a 0), .int (nI j)]) (va_Qv (roV w) (gB D k a) (gF B0)) 0 0 (gF B0) := by
  have hsX0 := hsX
  obtain ⟨hsP1, hsP2, hsP3, hsP4, hsP5, hsP6, hsP7, hsP8⟩ := hsP
  refine g_ofW (by decide) rfl (fun p e s m args below meth c Q hQ hx hb hr hlk hml hown hts hB hG hK hS ls hl => ?_)
  have hl : lv_has ls 2 [(0, .ref (a 0)), (1, .int (nI j))] := hl
  have hown : s.vm.findClass RX = some m.cls := hown
  refine lv_aload_n hx hb dX_requireTold_0 rfl (lv_at hl 0 rfl) ?_
  refine g_get hx hb hts inX hown hK hG 0 (by decide) hsX0 rfl 0 (by decide) lkX_10 rfl dX_requireTold_1 ?_
  refine lv_iload_n hx hb dX_requireTold_4 rfl (lv_at hl 1 rfl) ?_
  refine g_ViR (i := 1) (As := [.int (nI j)]) (rest := []) (kP_isTold hA ⟨hsP1, hsP2, hsP3, hsP4, hsP5, hsP6, hsP7, hsP8⟩ j (by omega)) calP_isTold cvP_isTold mlX_112 hx hb hml hown hts hB hG hK hS (by decide) hsP1 rfl ⟨by decide, by decide⟩ rfl hl.1 rfl (Nat.le_of_ble_eq_true rfl) dX_requireTold_5 ⟨by decide, by decide⟩ (fun H locs hG hS => ?_)
  refine lb_if_ne (tgt := 21) hx hb dX_requireTold_8 (by decide) (fun c1 => ?_) (fun c1 => ?_)
  · exact g_vret hQ hx hb hr hlk hG hK hS (by decide) (by decide) ⟨trivial, rfl⟩ dX_requireTold_21
  · exfalso
    first | omega | contradiction | (simp_all; done) | grind

abbrev rmX_requireTold_b : Room := { frames := 6, cells := 1, slots := 6, locals := 82 }
set_option maxRecDepth 100000 in
set_option maxHeartbeats 4000000 in
theorem kX_requireTold_b {l : Launch} (hl9 : l.stackTraces = false) {D : va_G} {k : ClassId × ClassId × ClassId} {a : Nat → Nat} {B0 : Nat} {w : Nat → va_E} (hA : gA B0 a) {n : Nat} {up : Nat → Int64} {lo : Nat → Int64} {fa : Nat → Int32} {we : Nat → Int32} {ti : Nat → Int32} {ri : Nat → Int32} {jo : Nat → Int32} (hsX : sX k a w ) (hsP : sP k a w n up lo fa we ti ri jo) (j : Nat) (hj : j < 12) (ht : ¬ 0 < lo j) : xMet l yX_requireTold cX_requireTold 2 none rmX_requireTold_b D k a B0 w [.ref (a 0), .int (nI j)] eUOE := by
  have hsX0 := hsX
  obtain ⟨hsP1, hsP2, hsP3, hsP4, hsP5, hsP6, hsP7, hsP8⟩ := hsP
  refine x_ofW (by decide) rfl (fun p e s m args below meth c Q hQ htab hx hb hr hlk hml hown hts hB hG hK hS hXS ls hl => ?_)
  have hl : lv_has ls 2 [(0, .ref (a 0)), (1, .int (nI j))] := hl
  have hown : s.vm.findClass RX = some m.cls := hown
  refine lv_aload_n hx hb dX_requireTold_0 rfl (lv_at hl 0 rfl) ?_
  refine g_get hx hb hts inX hown hK hG 0 (by decide) hsX0 rfl 0 (by decide) lkX_10 rfl dX_requireTold_1 ?_
  refine lv_iload_n hx hb dX_requireTold_4 rfl (lv_at hl 1 rfl) ?_
  refine g_ViR (i := 1) (As := [.int (nI j)]) (rest := []) (kP_isTold hA ⟨hsP1, hsP2, hsP3, hsP4, hsP5, hsP6, hsP7, hsP8⟩ j (by omega)) calP_isTold cvP_isTold mlX_112 hx hb hml hown hts hB hG hK hS (by decide) hsP1 rfl ⟨by decide, by decide⟩ rfl hl.1 rfl (Nat.le_of_ble_eq_true rfl) dX_requireTold_5 ⟨by decide, by decide⟩ (fun H locs hG hS => ?_)
  refine lb_if_ne (tgt := 21) hx hb dX_requireTold_8 (by decide) (fun c1 => ?_) (fun c1 => ?_)
  · exfalso
    first | omega | contradiction | (simp_all; done) | grind
  · exact x_throw hQ hl9 xok_eUOE (show ((219 : Nat), "no face of the part cools") ∈ xStr by decide +kernel) hx hb hml hown hts hG hK hS hXS hlk htab hl.1 dX_requireTold_11 dX_requireTold_14 dX_requireTold_15 dX_requireTold_17 dX_requireTold_20 (by decide) (by decide) (by decide) (by decide) (by decide) (by decide)

abbrev rmX_requireFlowRows : Room := { frames := 1, cells := 0, slots := 0, locals := 20 }
set_option maxRecDepth 100000 in
set_option maxHeartbeats 4000000 in
theorem kX_requireFlowRows {l : Launch} {D : va_G} {k : ClassId × ClassId × ClassId} {a : Nat → Nat} {B0 : Nat} {w : Nat → va_E} (hA : gA B0 a) {nf : Nat} {fo : Nat → Int32} {ff : Nat → Int32} (hsX : sX k a w ) (hsF : sF k a w nf fo ff) (h0 : 0 < nf) (hn : nf ≤ 8) : Met l yX_requireFlowRows (tbw yX_requireFlowRows cX_requireFlowRows 1 none) rmX_requireFlowRows (gPc D k a B0 w [.ref (a 0)]) (va_Qv (roV w) (gB D k a) (gF B0)) 0 0 (gF B0) := by
  have hsX0 := hsX
  obtain ⟨hsF12, hsF13, hsF14⟩ := hsF
  refine g_ofW (by decide) rfl (fun p e s m args below meth c Q hQ hx hb hr hlk hml hown hts hB hG hK hS ls hl => ?_)
  have hl : lv_has ls 1 [(0, .ref (a 0))] := hl
  have hown : s.vm.findClass RX = some m.cls := hown
  refine lv_aload_n hx hb dX_requireFlowRows_0 rfl (lv_at hl 0 rfl) ?_
  refine g_get hx hb hts inX hown hK hG 0 (by decide) hsX0 rfl 2 (by decide) lkX_26 rfl dX_requireFlowRows_1 ?_
  refine g_ViR (i := 12) (As := []) (rest := []) (kF_isEmpty hA ⟨hsF12, hsF13, hsF14⟩ (by omega)) calF_isEmpty cvF_isEmpty mlX_221 hx hb hml hown hts hB hG hK hS (by decide) hsF12 rfl ⟨by decide, by decide⟩ rfl hl.1 rfl (Nat.le_of_ble_eq_true rfl) dX_requireFlowRows_4 ⟨by decide, by decide⟩ (fun H locs hG hS => ?_)
  refine lb_if_eq (tgt := 20) hx hb dX_requireFlowRows_7 (by decide) (fun c1 => ?_) (fun c1 => ?_)
  · exact g_vret hQ hx hb hr hlk hG hK hS (by decide) (by decide) ⟨trivial, rfl⟩ dX_requireFlowRows_20
  · exfalso
    first | omega | contradiction | (simp_all; done) | grind

abbrev rmX_requireFlowRows_b : Room := { frames := 6, cells := 1, slots := 6, locals := 82 }
set_option maxRecDepth 100000 in
set_option maxHeartbeats 4000000 in
theorem kX_requireFlowRows_b {l : Launch} (hl9 : l.stackTraces = false) {D : va_G} {k : ClassId × ClassId × ClassId} {a : Nat → Nat} {B0 : Nat} {w : Nat → va_E} (hA : gA B0 a) {nf : Nat} {fo : Nat → Int32} {ff : Nat → Int32} (hsX : sX k a w ) (hsF : sF k a w nf fo ff) (h0 : nf = 0) : xMet l yX_requireFlowRows cX_requireFlowRows 1 none rmX_requireFlowRows_b D k a B0 w [.ref (a 0)] eISE := by
  have hsX0 := hsX
  obtain ⟨hsF12, hsF13, hsF14⟩ := hsF
  refine x_ofW (by decide) rfl (fun p e s m args below meth c Q hQ htab hx hb hr hlk hml hown hts hB hG hK hS hXS ls hl => ?_)
  have hl : lv_has ls 1 [(0, .ref (a 0))] := hl
  have hown : s.vm.findClass RX = some m.cls := hown
  refine lv_aload_n hx hb dX_requireFlowRows_0 rfl (lv_at hl 0 rfl) ?_
  refine g_get hx hb hts inX hown hK hG 0 (by decide) hsX0 rfl 2 (by decide) lkX_26 rfl dX_requireFlowRows_1 ?_
  refine g_ViR (i := 12) (As := []) (rest := []) (kF_isEmpty hA ⟨hsF12, hsF13, hsF14⟩ (by omega)) calF_isEmpty cvF_isEmpty mlX_221 hx hb hml hown hts hB hG hK hS (by decide) hsF12 rfl ⟨by decide, by decide⟩ rfl hl.1 rfl (Nat.le_of_ble_eq_true rfl) dX_requireFlowRows_4 ⟨by decide, by decide⟩ (fun H locs hG hS => ?_)
  refine lb_if_eq (tgt := 20) hx hb dX_requireFlowRows_7 (by decide) (fun c1 => ?_) (fun c1 => ?_)
  · exfalso
    first | omega | contradiction | (simp_all; done) | grind
  · exact x_throw hQ hl9 xok_eISE (show ((224 : Nat), "there are no flow rows") ∈ xStr by decide +kernel) hx hb hml hown hts hG hK hS hXS hlk htab hl.1 dX_requireFlowRows_10 dX_requireFlowRows_13 dX_requireFlowRows_14 dX_requireFlowRows_16 dX_requireFlowRows_19 (by decide) (by decide) (by decide) (by decide) (by decide) (by decide)

abbrev rmX_requireNotBelowZero : Room := { frames := 0, cells := 0, slots := 0, locals := 0 }
set_option maxRecDepth 100000 in
set_option maxHeartbeats 4000000 in
theorem kX_requireNotBelowZero {l : Launch} {D : va_G} {k : ClassId × ClassId × ClassId} {a : Nat → Nat} {B0 : Nat} {w : Nat → va_E} (hA : gA B0 a)  (q : Int32) (hq : ¬ q < 0) : Met l yX_requireNotBelowZero (tbw yX_requireNotBelowZero cX_requireNotBelowZero 1 none) rmX_requireNotBelowZero (gPc D k a B0 w [.int q]) (va_Qv (roV w) (gB D k a) (gF B0)) 0 0 (gF B0) := by
  refine g_ofW (by decide) rfl (fun p e s m args below meth c Q hQ hx hb hr hlk hml hown hts hB hG hK hS ls hl => ?_)
  have hl : lv_has ls 1 [(0, .int q)] := hl
  have hown : s.vm.findClass RX = some m.cls := hown
  refine lv_iload_n hx hb dX_requireNotBelowZero_0 rfl (lv_at hl 0 rfl) ?_
  refine lv_if_ge (tgt := 14) hx hb dX_requireNotBelowZero_1 (by decide) (fun c1 => ?_) (fun c1 => ?_)
  · exact g_vret hQ hx hb hr hlk hG hK hS (by decide) (by decide) ⟨trivial, rfl⟩ dX_requireNotBelowZero_14
  · exfalso
    first | omega | contradiction | (simp_all; done) | grind

abbrev rmX_requireNotBelowZero_b : Room := { frames := 6, cells := 1, slots := 6, locals := 82 }
set_option maxRecDepth 100000 in
set_option maxHeartbeats 4000000 in
theorem kX_requireNotBelowZero_b {l : Launch} (hl9 : l.stackTraces = false) {D : va_G} {k : ClassId × ClassId × ClassId} {a : Nat → Nat} {B0 : Nat} {w : Nat → va_E} (hA : gA B0 a) (q : Int32) (hq : q < 0) : xMet l yX_requireNotBelowZero cX_requireNotBelowZero 1 none rmX_requireNotBelowZero_b D k a B0 w [.int q] eIOB := by
  refine x_ofW (by decide) rfl (fun p e s m args below meth c Q hQ htab hx hb hr hlk hml hown hts hB hG hK hS hXS ls hl => ?_)
  have hl : lv_has ls 1 [(0, .int q)] := hl
  have hown : s.vm.findClass RX = some m.cls := hown
  refine lv_iload_n hx hb dX_requireNotBelowZero_0 rfl (lv_at hl 0 rfl) ?_
  refine lv_if_ge (tgt := 14) hx hb dX_requireNotBelowZero_1 (by decide) (fun c1 => ?_) (fun c1 => ?_)
  · exfalso
    first | omega | contradiction | (simp_all; done) | grind
  · exact x_throw hQ hl9 xok_eIOB (show ((226 : Nat), "below 0") ∈ xStr by decide +kernel) hx hb hml hown hts hG hK hS hXS hlk htab hl.1 dX_requireNotBelowZero_4 dX_requireNotBelowZero_7 dX_requireNotBelowZero_8 dX_requireNotBelowZero_10 dX_requireNotBelowZero_13 (by decide) (by decide) (by decide) (by decide) (by decide) (by decide)

abbrev rmX_requireSize : Room := { frames := 0, cells := 0, slots := 0, locals := 0 }
set_option maxRecDepth 100000 in
set_option maxHeartbeats 4000000 in
theorem kX_requireSize {l : Launch} {D : va_G} {k : ClassId × ClassId × ClassId} {a : Nat → Nat} {B0 : Nat} {w : Nat → va_E} (hA : gA B0 a)  (x : Int32) (hz : szR x) : Met l yX_requireSize (tbw yX_requireSize cX_requireSize 1 none) rmX_requireSize (gPc D k a B0 w [.int x]) (va_Qv (roV w) (gB D k a) (gF B0)) 0 0 (gF B0) := by
  refine g_ofW (by decide) rfl (fun p e s m args below meth c Q hQ hx hb hr hlk hml hown hts hB hG hK hS ls hl => ?_)
  have hl : lv_has ls 1 [(0, .int x)] := hl
  have hown : s.vm.findClass RX = some m.cls := hown
  refine lv_iload_n hx hb dX_requireSize_0 rfl (lv_at hl 0 rfl) ?_
  refine lv_iconst (v := 1) hx hb dX_requireSize_1 (by decide) ?_
  refine lv_icmp_lt (tgt := 12) hx hb dX_requireSize_2 (by decide) (fun c1 => ?_) (fun c1 => ?_)
  · exfalso
    first | exact absurd (by assumption) hz.1 | exact absurd (Int32.not_le.mp (by assumption)) hz.2
  · refine lv_iload_n hx hb dX_requireSize_5 rfl (lv_at hl 0 rfl) ?_
    refine lv_sipush (v := 1000) hx hb dX_requireSize_6 (by decide) ?_
    refine lv_icmp_le (tgt := 22) hx hb dX_requireSize_9 (by decide) (fun c2 => ?_) (fun c2 => ?_)
    · exact g_vret hQ hx hb hr hlk hG hK hS (by decide) (by decide) ⟨trivial, rfl⟩ dX_requireSize_22
    · exfalso
      first | exact absurd (by assumption) hz.1 | exact absurd (Int32.not_le.mp (by assumption)) hz.2

abbrev rmX_requireSize_b : Room := { frames := 6, cells := 1, slots := 6, locals := 82 }
set_option maxRecDepth 100000 in
set_option maxHeartbeats 4000000 in
theorem kX_requireSize_b {l : Launch} (hl9 : l.stackTraces = false) {D : va_G} {k : ClassId × ClassId × ClassId} {a : Nat → Nat} {B0 : Nat} {w : Nat → va_E} (hA : gA B0 a) (x : Int32) (hz : ¬ szR x) : xMet l yX_requireSize cX_requireSize 1 none rmX_requireSize_b D k a B0 w [.int x] eIAE := by
  refine x_ofW (by decide) rfl (fun p e s m args below meth c Q hQ htab hx hb hr hlk hml hown hts hB hG hK hS hXS ls hl => ?_)
  have hl : lv_has ls 1 [(0, .int x)] := hl
  have hown : s.vm.findClass RX = some m.cls := hown
  refine lv_iload_n hx hb dX_requireSize_0 rfl (lv_at hl 0 rfl) ?_
  refine lv_iconst (v := 1) hx hb dX_requireSize_1 (by decide) ?_
  refine lv_icmp_lt (tgt := 12) hx hb dX_requireSize_2 (by decide) (fun c1 => ?_) (fun c1 => ?_)
  · exact x_throw hQ hl9 xok_eIAE (show ((228 : Nat), "a size is 1 to 1,000 millimetres") ∈ xStr by decide +kernel) hx hb hml hown hts hG hK hS hXS hlk htab hl.1 dX_requireSize_12 dX_requireSize_15 dX_requireSize_16 dX_requireSize_18 dX_requireSize_21 (by decide) (by decide) (by decide) (by decide) (by decide) (by decide)
  · refine lv_iload_n hx hb dX_requireSize_5 rfl (lv_at hl 0 rfl) ?_
    refine lv_sipush (v := 1000) hx hb dX_requireSize_6 (by decide) ?_
    refine lv_icmp_le (tgt := 22) hx hb dX_requireSize_9 (by decide) (fun c2 => ?_) (fun c2 => ?_)
    · exfalso
      exact hz ⟨by assumption, Int32.not_lt.mpr (by assumption)⟩
    · exact x_throw hQ hl9 xok_eIAE (show ((228 : Nat), "a size is 1 to 1,000 millimetres") ∈ xStr by decide +kernel) hx hb hml hown hts hG hK hS hXS hlk htab hl.1 dX_requireSize_12 dX_requireSize_15 dX_requireSize_16 dX_requireSize_18 dX_requireSize_21 (by decide) (by decide) (by decide) (by decide) (by decide) (by decide)

abbrev rmX_requireOpening : Room := { frames := 0, cells := 0, slots := 0, locals := 0 }
set_option maxRecDepth 100000 in
set_option maxHeartbeats 4000000 in
theorem kX_requireOpening {l : Launch} {D : va_G} {k : ClassId × ClassId × ClassId} {a : Nat → Nat} {B0 : Nat} {w : Nat → va_E} (hA : gA B0 a)  (x : Int32) (hz : opR x) : Met l yX_requireOpening (tbw yX_requireOpening cX_requireOpening 1 none) rmX_requireOpening (gPc D k a B0 w [.int x]) (va_Qv (roV w) (gB D k a) (gF B0)) 0 0 (gF B0) := by
  refine g_ofW (by decide) rfl (fun p e s m args below meth c Q hQ hx hb hr hlk hml hown hts hB hG hK hS ls hl => ?_)
  have hl : lv_has ls 1 [(0, .int x)] := hl
  have hown : s.vm.findClass RX = some m.cls := hown
  refine lv_iload_n hx hb dX_requireOpening_0 rfl (lv_at hl 0 rfl) ?_
  refine lv_if_lt (tgt := 11) hx hb dX_requireOpening_1 (by decide) (fun c1 => ?_) (fun c1 => ?_)
  · exfalso
    first | exact absurd (by assumption) hz.1 | exact absurd (Int32.not_le.mp (by assumption)) hz.2
  · refine lv_iload_n hx hb dX_requireOpening_4 rfl (lv_at hl 0 rfl) ?_
    refine lv_sipush (v := 10000) hx hb dX_requireOpening_5 (by decide) ?_
    refine lv_icmp_le (tgt := 21) hx hb dX_requireOpening_8 (by decide) (fun c2 => ?_) (fun c2 => ?_)
    · exact g_vret hQ hx hb hr hlk hG hK hS (by decide) (by decide) ⟨trivial, rfl⟩ dX_requireOpening_21
    · exfalso
      first | exact absurd (by assumption) hz.1 | exact absurd (Int32.not_le.mp (by assumption)) hz.2

abbrev rmX_requireOpening_b : Room := { frames := 6, cells := 1, slots := 6, locals := 82 }
set_option maxRecDepth 100000 in
set_option maxHeartbeats 4000000 in
theorem kX_requireOpening_b {l : Launch} (hl9 : l.stackTraces = false) {D : va_G} {k : ClassId × ClassId × ClassId} {a : Nat → Nat} {B0 : Nat} {w : Nat → va_E} (hA : gA B0 a) (x : Int32) (hz : ¬ opR x) : xMet l yX_requireOpening cX_requireOpening 1 none rmX_requireOpening_b D k a B0 w [.int x] eIAE := by
  refine x_ofW (by decide) rfl (fun p e s m args below meth c Q hQ htab hx hb hr hlk hml hown hts hB hG hK hS hXS ls hl => ?_)
  have hl : lv_has ls 1 [(0, .int x)] := hl
  have hown : s.vm.findClass RX = some m.cls := hown
  refine lv_iload_n hx hb dX_requireOpening_0 rfl (lv_at hl 0 rfl) ?_
  refine lv_if_lt (tgt := 11) hx hb dX_requireOpening_1 (by decide) (fun c1 => ?_) (fun c1 => ?_)
  · exact x_throw hQ hl9 xok_eIAE (show ((230 : Nat), "an opening is 0 to 10,000") ∈ xStr by decide +kernel) hx hb hml hown hts hG hK hS hXS hlk htab hl.1 dX_requireOpening_11 dX_requireOpening_14 dX_requireOpening_15 dX_requireOpening_17 dX_requireOpening_20 (by decide) (by decide) (by decide) (by decide) (by decide) (by decide)
  · refine lv_iload_n hx hb dX_requireOpening_4 rfl (lv_at hl 0 rfl) ?_
    refine lv_sipush (v := 10000) hx hb dX_requireOpening_5 (by decide) ?_
    refine lv_icmp_le (tgt := 21) hx hb dX_requireOpening_8 (by decide) (fun c2 => ?_) (fun c2 => ?_)
    · exfalso
      exact hz ⟨by assumption, Int32.not_lt.mpr (by assumption)⟩
    · exact x_throw hQ hl9 xok_eIAE (show ((230 : Nat), "an opening is 0 to 10,000") ∈ xStr by decide +kernel) hx hb hml hown hts hG hK hS hXS hlk htab hl.1 dX_requireOpening_11 dX_requireOpening_14 dX_requireOpening_15 dX_requireOpening_17 dX_requireOpening_20 (by decide) (by decide) (by decide) (by decide) (by decide) (by decide)

abbrev rmX_requireFlow : Room := { frames := 0, cells := 0, slots := 0, locals := 0 }
set_option maxRecDepth 100000 in
set_option maxHeartbeats 4000000 in
theorem kX_requireFlow {l : Launch} {D : va_G} {k : ClassId × ClassId × ClassId} {a : Nat → Nat} {B0 : Nat} {w : Nat → va_E} (hA : gA B0 a)  (x : Int32) (hz : flR x) : Met l yX_requireFlow (tbw yX_requireFlow cX_requireFlow 1 none) rmX_requireFlow (gPc D k a B0 w [.int x]) (va_Qv (roV w) (gB D k a) (gF B0)) 0 0 (gF B0) := by
  refine g_ofW (by decide) rfl (fun p e s m args below meth c Q hQ hx hb hr hlk hml hown hts hB hG hK hS ls hl => ?_)
  have hl : lv_has ls 1 [(0, .int x)] := hl
  have hown : s.vm.findClass RX = some m.cls := hown
  refine lv_iload_n hx hb dX_requireFlow_0 rfl (lv_at hl 0 rfl) ?_
  refine lv_if_lt (tgt := 10) hx hb dX_requireFlow_1 (by decide) (fun c1 => ?_) (fun c1 => ?_)
  · exfalso
    first | exact absurd (by assumption) hz.1 | exact absurd (Int32.not_le.mp (by assumption)) hz.2
  · refine lv_iload_n hx hb dX_requireFlow_4 rfl (lv_at hl 0 rfl) ?_
    refine lv_ldc (v := 1000000) hx hb hown (hts _ kcX_232) dX_requireFlow_5 ?_
    refine lv_icmp_le (tgt := 20) hx hb dX_requireFlow_7 (by decide) (fun c2 => ?_) (fun c2 => ?_)
    · exact g_vret hQ hx hb hr hlk hG hK hS (by decide) (by decide) ⟨trivial, rfl⟩ dX_requireFlow_20
    · exfalso
      first | exact absurd (by assumption) hz.1 | exact absurd (Int32.not_le.mp (by assumption)) hz.2

abbrev rmX_requireFlow_b : Room := { frames := 6, cells := 1, slots := 6, locals := 82 }
set_option maxRecDepth 100000 in
set_option maxHeartbeats 4000000 in
theorem kX_requireFlow_b {l : Launch} (hl9 : l.stackTraces = false) {D : va_G} {k : ClassId × ClassId × ClassId} {a : Nat → Nat} {B0 : Nat} {w : Nat → va_E} (hA : gA B0 a) (x : Int32) (hz : ¬ flR x) : xMet l yX_requireFlow cX_requireFlow 1 none rmX_requireFlow_b D k a B0 w [.int x] eIAE := by
  refine x_ofW (by decide) rfl (fun p e s m args below meth c Q hQ htab hx hb hr hlk hml hown hts hB hG hK hS hXS ls hl => ?_)
  have hl : lv_has ls 1 [(0, .int x)] := hl
  have hown : s.vm.findClass RX = some m.cls := hown
  refine lv_iload_n hx hb dX_requireFlow_0 rfl (lv_at hl 0 rfl) ?_
  refine lv_if_lt (tgt := 10) hx hb dX_requireFlow_1 (by decide) (fun c1 => ?_) (fun c1 => ?_)
  · exact x_throw hQ hl9 xok_eIAE (show ((233 : Nat), "a flow is 0 to 1,000,000") ∈ xStr by decide +kernel) hx hb hml hown hts hG hK hS hXS hlk htab hl.1 dX_requireFlow_10 dX_requireFlow_13 dX_requireFlow_14 dX_requireFlow_16 dX_requireFlow_19 (by decide) (by decide) (by decide) (by decide) (by decide) (by decide)
  · refine lv_iload_n hx hb dX_requireFlow_4 rfl (lv_at hl 0 rfl) ?_
    refine lv_ldc (v := 1000000) hx hb hown (hts _ kcX_232) dX_requireFlow_5 ?_
    refine lv_icmp_le (tgt := 20) hx hb dX_requireFlow_7 (by decide) (fun c2 => ?_) (fun c2 => ?_)
    · exfalso
      exact hz ⟨by assumption, Int32.not_lt.mpr (by assumption)⟩
    · exact x_throw hQ hl9 xok_eIAE (show ((233 : Nat), "a flow is 0 to 1,000,000") ∈ xStr by decide +kernel) hx hb hml hown hts hG hK hS hXS hlk htab hl.1 dX_requireFlow_10 dX_requireFlow_13 dX_requireFlow_14 dX_requireFlow_16 dX_requireFlow_19 (by decide) (by decide) (by decide) (by decide) (by decide) (by decide)

abbrev rmX_requireMoldingSize : Room := { frames := 0, cells := 0, slots := 0, locals := 0 }
set_option maxRecDepth 100000 in
set_option maxHeartbeats 4000000 in
theorem kX_requireMoldingSize {l : Launch} {D : va_G} {k : ClassId × ClassId × ClassId} {a : Nat → Nat} {B0 : Nat} {w : Nat → va_E} (hA : gA B0 a)  (x : Int32) (hz : wdR x) : Met l yX_requireMoldingSize (tbw yX_requireMoldingSize cX_requireMoldingSize 1 none) rmX_requireMoldingSize (gPc D k a B0 w [.int x]) (va_Qv (roV w) (gB D k a) (gF B0)) 0 0 (gF B0) := by
  refine g_ofW (by decide) rfl (fun p e s m args below meth c Q hQ hx hb hr hlk hml hown hts hB hG hK hS ls hl => ?_)
  have hl : lv_has ls 1 [(0, .int x)] := hl
  have hown : s.vm.findClass RX = some m.cls := hown
  refine lv_iload_n hx hb dX_requireMoldingSize_0 rfl (lv_at hl 0 rfl) ?_
  refine lv_iconst (v := 1) hx hb dX_requireMoldingSize_1 (by decide) ?_
  refine lv_icmp_lt (tgt := 12) hx hb dX_requireMoldingSize_2 (by decide) (fun c1 => ?_) (fun c1 => ?_)
  · exfalso
    first | exact absurd (by assumption) hz.1 | exact absurd (Int32.not_le.mp (by assumption)) hz.2
  · refine lv_iload_n hx hb dX_requireMoldingSize_5 rfl (lv_at hl 0 rfl) ?_
    refine lv_sipush (v := 2000) hx hb dX_requireMoldingSize_6 (by decide) ?_
    refine lv_icmp_le (tgt := 22) hx hb dX_requireMoldingSize_9 (by decide) (fun c2 => ?_) (fun c2 => ?_)
    · exact g_vret hQ hx hb hr hlk hG hK hS (by decide) (by decide) ⟨trivial, rfl⟩ dX_requireMoldingSize_22
    · exfalso
      first | exact absurd (by assumption) hz.1 | exact absurd (Int32.not_le.mp (by assumption)) hz.2

abbrev rmX_requireMoldingSize_b : Room := { frames := 6, cells := 1, slots := 6, locals := 82 }
set_option maxRecDepth 100000 in
set_option maxHeartbeats 4000000 in
theorem kX_requireMoldingSize_b {l : Launch} (hl9 : l.stackTraces = false) {D : va_G} {k : ClassId × ClassId × ClassId} {a : Nat → Nat} {B0 : Nat} {w : Nat → va_E} (hA : gA B0 a) (x : Int32) (hz : ¬ wdR x) : xMet l yX_requireMoldingSize cX_requireMoldingSize 1 none rmX_requireMoldingSize_b D k a B0 w [.int x] eIAE := by
  refine x_ofW (by decide) rfl (fun p e s m args below meth c Q hQ htab hx hb hr hlk hml hown hts hB hG hK hS hXS ls hl => ?_)
  have hl : lv_has ls 1 [(0, .int x)] := hl
  have hown : s.vm.findClass RX = some m.cls := hown
  refine lv_iload_n hx hb dX_requireMoldingSize_0 rfl (lv_at hl 0 rfl) ?_
  refine lv_iconst (v := 1) hx hb dX_requireMoldingSize_1 (by decide) ?_
  refine lv_icmp_lt (tgt := 12) hx hb dX_requireMoldingSize_2 (by decide) (fun c1 => ?_) (fun c1 => ?_)
  · exact x_throw hQ hl9 xok_eIAE (show ((235 : Nat), "a molding's size is 1 to 2,000") ∈ xStr by decide +kernel) hx hb hml hown hts hG hK hS hXS hlk htab hl.1 dX_requireMoldingSize_12 dX_requireMoldingSize_15 dX_requireMoldingSize_16 dX_requireMoldingSize_18 dX_requireMoldingSize_21 (by decide) (by decide) (by decide) (by decide) (by decide) (by decide)
  · refine lv_iload_n hx hb dX_requireMoldingSize_5 rfl (lv_at hl 0 rfl) ?_
    refine lv_sipush (v := 2000) hx hb dX_requireMoldingSize_6 (by decide) ?_
    refine lv_icmp_le (tgt := 22) hx hb dX_requireMoldingSize_9 (by decide) (fun c2 => ?_) (fun c2 => ?_)
    · exfalso
      exact hz ⟨by assumption, Int32.not_lt.mpr (by assumption)⟩
    · exact x_throw hQ hl9 xok_eIAE (show ((235 : Nat), "a molding's size is 1 to 2,000") ∈ xStr by decide +kernel) hx hb hml hown hts hG hK hS hXS hlk htab hl.1 dX_requireMoldingSize_12 dX_requireMoldingSize_15 dX_requireMoldingSize_16 dX_requireMoldingSize_18 dX_requireMoldingSize_21 (by decide) (by decide) (by decide) (by decide) (by decide) (by decide)
