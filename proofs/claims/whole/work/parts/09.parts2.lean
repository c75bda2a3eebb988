abbrev rmJ_compare : Room := { frames := 0, cells := 0, slots := 0, locals := 0 }
set_option maxRecDepth 100000 in
set_option maxHeartbeats 4000000 in
theorem kJ_compare {l : Launch} {D : va_G} {k : ClassId × ClassId × ClassId} {a : Nat → Nat} {B0 : Nat} {w : Nat → va_E} (hA : gA B0 a)  (x : Int64) (y : Int64) : Met l yJ_compare (tbw yJ_compare cJ_compare 4 (some .int)) rmJ_compare (gPc D k a B0 w [.long x, .long y]) (va_Qi (roP (cmpL x y) w) (gB D k a) (gF B0)) 0 0 (gF B0) := by
  refine g_ofW (by decide) rfl (fun p e s m args below meth c Q hQ hx hb hr hlk hml hown hts hB hG hK hS ls hl => ?_)
  have hl : lv_has ls 4 [(0, .long x), (2, .long y)] := hl
  have hown : s.vm.findClass RJ = some m.cls := hown
  refine lv_lload_n hx hb dJ_compare_0 rfl (lv_at hl 0 rfl) ?_
  refine lv_lload_n hx hb dJ_compare_1 rfl (lv_at hl 1 rfl) ?_
  refine W.lcmp hx hb dJ_compare_2 ?_
  refine lc_if_ge (tgt := 10) hx hb dJ_compare_3 (by decide) (fun c1 => ?_) (fun c1 => ?_)
  · refine lv_lload_n hx hb dJ_compare_10 rfl (lv_at hl 0 rfl) ?_
    refine lv_lload_n hx hb dJ_compare_11 rfl (lv_at hl 1 rfl) ?_
    refine W.lcmp hx hb dJ_compare_12 ?_
    refine lc_if_ne (tgt := 20) hx hb dJ_compare_13 (by decide) (fun c2 => ?_) (fun c2 => ?_)
    · refine lv_iconst (v := 1) hx hb dJ_compare_20 (by decide) ?_
      exact g_iret hQ hx hb hr hlk hG hK hS (by decide) (by decide) ⟨by unfold cmpL; simp_all [Int64.not_lt], rfl⟩ dJ_compare_21
    · refine lv_iconst (v := 0) hx hb dJ_compare_16 (by decide) ?_
      refine lv_goto (tgt := 21) hx hb dJ_compare_17 (by decide) ?_
      exact g_iret hQ hx hb hr hlk hG hK hS (by decide) (by decide) ⟨by unfold cmpL; simp_all [Int64.not_lt], rfl⟩ dJ_compare_21
  · refine lv_iconst (v := (-1)) hx hb dJ_compare_6 (by decide) ?_
    refine lv_goto (tgt := 21) hx hb dJ_compare_7 (by decide) ?_
    exact g_iret hQ hx hb hr hlk hG hK hS (by decide) (by decide) ⟨by unfold cmpL; simp_all [Int64.not_lt], rfl⟩ dJ_compare_21

abbrev rmP_compare : Room := { frames := 1, cells := 0, slots := 0, locals := 23 }
set_option maxRecDepth 100000 in
set_option maxHeartbeats 4000000 in
theorem kP_compare {l : Launch} {D : va_G} {k : ClassId × ClassId × ClassId} {a : Nat → Nat} {B0 : Nat} {w : Nat → va_E} (hA : gA B0 a) {n : Nat} {up : Nat → Int64} {lo : Nat → Int64} {fa : Nat → Int32} {we : Nat → Int32} {ti : Nat → Int32} {ri : Nat → Int32} {jo : Nat → Int32} (hsP : sP k a w n up lo fa we ti ri jo) (j : Nat) (i : Nat) (hj : j < 12) (hi : i < 12) : Met l yP_compare (tbw yP_compare cP_compare 3 (some .int)) rmP_compare (gPc D k a B0 w [.ref (a 1), .int (nI j), .int (nI i)]) (va_Qi (roP (rCmp up lo j i) w) (gB D k a) (gF B0)) 0 0 (gF B0) := by
  obtain ⟨hsP1, hsP2, hsP3, hsP4, hsP5, hsP6, hsP7, hsP8⟩ := hsP
  refine g_ofW (by decide) rfl (fun p e s m args below meth c Q hQ hx hb hr hlk hml hown hts hB hG hK hS ls hl => ?_)
  have hl : lv_has ls 3 [(0, .ref (a 1)), (1, .int (nI j)), (2, .int (nI i))] := hl
  have hown : s.vm.findClass RP = some m.cls := hown
  refine lv_aload_n hx hb dP_compare_0 rfl (lv_at hl 0 rfl) ?_
  refine g_get hx hb hts inP hown hK hG 1 (by decide) hsP1 rfl 0 (by decide) lkP_9 rfl dP_compare_1 ?_
  refine lv_iload_n hx hb dP_compare_4 rfl (lv_at hl 1 rfl) ?_
  refine g_lald hx hb hK hG 2 (by decide) hsP2 (j := j) (by omega) (by decide) dP_compare_5 ?_
  refine lv_aload_n hx hb dP_compare_6 rfl (lv_at hl 0 rfl) ?_
  refine g_get hx hb hts inP hown hK hG 1 (by decide) hsP1 rfl 1 (by decide) lkP_15 rfl dP_compare_7 ?_
  refine lv_iload_n hx hb dP_compare_10 rfl (lv_at hl 2 rfl) ?_
  refine g_lald hx hb hK hG 3 (by decide) hsP3 (j := i) (by omega) (by decide) dP_compare_11 ?_
  refine lv_lmul hx hb dP_compare_12 ?_
  refine lv_aload_n hx hb dP_compare_13 rfl (lv_at hl 0 rfl) ?_
  refine g_get hx hb hts inP hown hK hG 1 (by decide) hsP1 rfl 0 (by decide) lkP_9 rfl dP_compare_14 ?_
  refine lv_iload_n hx hb dP_compare_17 rfl (lv_at hl 2 rfl) ?_
  refine g_lald hx hb hK hG 2 (by decide) hsP2 (j := i) (by omega) (by decide) dP_compare_18 ?_
  refine lv_aload_n hx hb dP_compare_19 rfl (lv_at hl 0 rfl) ?_
  refine g_get hx hb hts inP hown hK hG 1 (by decide) hsP1 rfl 1 (by decide) lkP_15 rfl dP_compare_20 ?_
  refine lv_iload_n hx hb dP_compare_23 rfl (lv_at hl 1 rfl) ?_
  refine g_lald hx hb hK hG 3 (by decide) hsP3 (j := j) (by omega) (by decide) dP_compare_24 ?_
  refine lv_lmul hx hb dP_compare_25 ?_
  refine g_SiR (As := [.long ((up j) * (lo i)), .long ((up i) * (lo j))]) (rest := []) (kJ_compare hA ((up j) * (lo i)) ((up i) * (lo j))) calJ_compare cvJ_compare mlP_50 hx hb hml hown hts hB hG hK hS ⟨by decide, by decide⟩ rfl hl.1 rfl (Nat.le_of_ble_eq_true rfl) dP_compare_26 ⟨by decide, by decide⟩ (fun H locs hG hS => ?_)
  exact g_iret hQ hx hb hr hlk hG hK hS (by decide) (by decide) ⟨by first | rfl | omega | (simp_all; done) | grind, rfl⟩ dP_compare_29

abbrev rmP_isEarlier : Room := { frames := 2, cells := 0, slots := 0, locals := 45 }
set_option maxRecDepth 100000 in
set_option maxHeartbeats 4000000 in
theorem kP_isEarlier {l : Launch} {D : va_G} {k : ClassId × ClassId × ClassId} {a : Nat → Nat} {B0 : Nat} {w : Nat → va_E} (hA : gA B0 a) {n : Nat} {up : Nat → Int64} {lo : Nat → Int64} {fa : Nat → Int32} {we : Nat → Int32} {ti : Nat → Int32} {ri : Nat → Int32} {jo : Nat → Int32} (hsP : sP k a w n up lo fa we ti ri jo) (j : Nat) (i : Nat) (hj : j < 12) (hi : i < 12) : Met l yP_isEarlier (tbw yP_isEarlier cP_isEarlier 4 (some .boolean)) rmP_isEarlier (gPc D k a B0 w [.ref (a 1), .int (nI j), .int (nI i)]) (va_Qi (roP (b2i (rEar up lo j i)) w) (gB D k a) (gF B0)) 0 0 (gF B0) := by
  obtain ⟨hsP1, hsP2, hsP3, hsP4, hsP5, hsP6, hsP7, hsP8⟩ := hsP
  refine g_ofW (by decide) rfl (fun p e s m args below meth c Q hQ hx hb hr hlk hml hown hts hB hG hK hS ls hl => ?_)
  have hl : lv_has ls 4 [(0, .ref (a 1)), (1, .int (nI j)), (2, .int (nI i))] := hl
  have hown : s.vm.findClass RP = some m.cls := hown
  refine lv_aload_n hx hb dP_isEarlier_0 rfl (lv_at hl 0 rfl) ?_
  refine lv_iload_n hx hb dP_isEarlier_1 rfl (lv_at hl 1 rfl) ?_
  refine lv_iload_n hx hb dP_isEarlier_2 rfl (lv_at hl 2 rfl) ?_
  refine g_ViR (i := 1) (As := [.int (nI j), .int (nI i)]) (rest := []) (kP_compare hA ⟨hsP1, hsP2, hsP3, hsP4, hsP5, hsP6, hsP7, hsP8⟩ j i (by omega) (by omega)) calP_compare cvP_compare mlP_64 hx hb hml hown hts hB hG hK hS (by decide) hsP1 rfl ⟨by decide, by decide⟩ rfl hl.1 rfl (Nat.le_of_ble_eq_true rfl) dP_isEarlier_3 ⟨by decide, by decide⟩ (fun H locs hG hS => ?_)
  refine lv_istore_n (lv' := [(3, .int (rCmp up lo j i)), (0, .ref (a 1)), (1, .int (nI j)), (2, .int (nI i))]) hx hb dP_isEarlier_6 rfl hl (by decide) rfl (fun ls hl => ?_)
  refine lv_iload_n hx hb dP_isEarlier_7 rfl (lv_at hl 0 rfl) ?_
  refine lv_if_lt (tgt := 20) hx hb dP_isEarlier_8 (by decide) (fun c1 => ?_) (fun c1 => ?_)
  · refine lv_iconst (v := 1) hx hb dP_isEarlier_20 (by decide) ?_
    refine lv_goto (tgt := 25) hx hb dP_isEarlier_21 (by decide) ?_
    exact g_zret hQ hx hb hr hlk hG hK hS (by decide) (by decide) (by decide) ⟨(b2i_t (by first | exact Or.inl (by assumption) | exact Or.inr ⟨by assumption, by omega⟩ | (intro h9; rcases h9 with h9 | ⟨h9, h8⟩ <;> first | contradiction | omega))).symm, rfl⟩ dP_isEarlier_25
  · refine lv_iload_n hx hb dP_isEarlier_11 rfl (lv_at hl 0 rfl) ?_
    refine lv_if_ne (tgt := 24) hx hb dP_isEarlier_12 (by decide) (fun c2 => ?_) (fun c2 => ?_)
    · refine lv_iconst (v := 0) hx hb dP_isEarlier_24 (by decide) ?_
      exact g_zret hQ hx hb hr hlk hG hK hS (by decide) (by decide) (by decide) ⟨(b2i_f (by first | exact Or.inl (by assumption) | exact Or.inr ⟨by assumption, by omega⟩ | (intro h9; rcases h9 with h9 | ⟨h9, h8⟩ <;> first | contradiction | omega))).symm, rfl⟩ dP_isEarlier_25
    · refine lv_iload_n hx hb dP_isEarlier_15 rfl (lv_at hl 2 rfl) ?_
      refine lv_iload_n hx hb dP_isEarlier_16 rfl (lv_at hl 3 rfl) ?_
      refine ln_icmp_ge (x := j) (y := i) (tgt := 24) hx hb dP_isEarlier_17 (by decide) (by omega) (by omega) (fun c3 => ?_) (fun c3 => ?_)
      · refine lv_iconst (v := 0) hx hb dP_isEarlier_24 (by decide) ?_
        exact g_zret hQ hx hb hr hlk hG hK hS (by decide) (by decide) (by decide) ⟨(b2i_f (by first | exact Or.inl (by assumption) | exact Or.inr ⟨by assumption, by omega⟩ | (intro h9; rcases h9 with h9 | ⟨h9, h8⟩ <;> first | contradiction | omega))).symm, rfl⟩ dP_isEarlier_25
      · refine lv_iconst (v := 1) hx hb dP_isEarlier_20 (by decide) ?_
        refine lv_goto (tgt := 25) hx hb dP_isEarlier_21 (by decide) ?_
        exact g_zret hQ hx hb hr hlk hG hK hS (by decide) (by decide) (by decide) ⟨(b2i_t (by first | exact Or.inl (by assumption) | exact Or.inr ⟨by assumption, by omega⟩ | (intro h9; rcases h9 with h9 | ⟨h9, h8⟩ <;> first | contradiction | omega))).symm, rfl⟩ dP_isEarlier_25

abbrev rmP_solidBefore : Room := { frames := 3, cells := 0, slots := 0, locals := 68 }
set_option maxRecDepth 100000 in
set_option maxHeartbeats 4000000 in
theorem kP_solidBefore {l : Launch} {D : va_G} {k : ClassId × ClassId × ClassId} {a : Nat → Nat} {B0 : Nat} {w : Nat → va_E} (hA : gA B0 a) {n : Nat} {up : Nat → Int64} {lo : Nat → Int64} {fa : Nat → Int32} {we : Nat → Int32} {ti : Nat → Int32} {ri : Nat → Int32} {jo : Nat → Int32} (hsP : sP k a w n up lo fa we ti ri jo) (j : Nat) (hn : n ≤ 12) (hj : j < 12) : Met l yP_solidBefore (tbw yP_solidBefore cP_solidBefore 4 (some .int)) rmP_solidBefore (gPc D k a B0 w [.ref (a 1), .int (nI j)]) (va_Qi (roP (nI (rBef up lo n j)) w) (gB D k a) (gF B0)) 0 0 (gF B0) := by
  obtain ⟨hsP1, hsP2, hsP3, hsP4, hsP5, hsP6, hsP7, hsP8⟩ := hsP
  refine g_ofW (by decide) rfl (fun p e s m args below meth c Q hQ hx hb hr hlk hml hown hts hB hG hK hS ls hl => ?_)
  have hl : lv_has ls 4 [(0, .ref (a 1)), (1, .int (nI j))] := hl
  have hown : s.vm.findClass RP = some m.cls := hown
  refine lv_iconst (v := 0) hx hb dP_solidBefore_0 (by decide) ?_
  refine lv_istore_n (lv' := [(2, .int 0), (0, .ref (a 1)), (1, .int (nI j))]) hx hb dP_solidBefore_1 rfl hl (by decide) rfl (fun ls hl => ?_)
  refine lv_iconst (v := 0) hx hb dP_solidBefore_2 (by decide) ?_
  refine lv_istore_n (lv' := [(3, .int 0), (2, .int 0), (0, .ref (a 1)), (1, .int (nI j))]) hx hb dP_solidBefore_3 rfl hl (by decide) rfl (fun ls hl => ?_)
  have loop4 : ∀ (k9 : Nat) (i : Nat) (b : Nat) (hi : i + k9 = n) (hb9 : b ≤ i) (hres : b + cntF (rBefP up lo j) k9 i = rBef up lo n j) (H : Heap) (locs : List Loc) (ls : Array Slot), gW D a w H → va_S (gF B0) s.heap H locs → lv_has ls 4 [(0, .ref (a 1)), (1, .int (nI j)), (2, .int (nI b)), (3, .int (nI i))] → W p l e rmP_solidBefore s m args below meth c H locs 0 0 Q (F0 m 4 ls []) := by
    intro k9
    induction k9 using Nat.strongRecOn with
    | _ k9 ih4 =>
      intro i b hi hb9 hres H locs ls hG hS hl
      refine lv_iload_n hx hb dP_solidBefore_4 rfl (lv_at hl 3 rfl) ?_
      refine lv_aload_n hx hb dP_solidBefore_5 rfl (lv_at hl 0 rfl) ?_
      refine g_get hx hb hts inP hown hK hG 1 (by decide) hsP1 rfl 7 (by decide) lkP_35 rfl dP_solidBefore_6 ?_
      refine ln_icmp_ge (x := i) (y := n) (tgt := 38) hx hb dP_solidBefore_9 (by decide) (by omega) (by omega) (fun c1 => ?_) (fun c1 => ?_)
      · obtain rfl : k9 = 0 := by omega
        refine lv_iload_n hx hb dP_solidBefore_38 rfl (lv_at hl 2 rfl) ?_
        exact g_iret hQ hx hb hr hlk hG hK hS (by decide) (by decide) ⟨by rw [← hres]; rfl, rfl⟩ dP_solidBefore_39
      · obtain ⟨k8, rfl⟩ : ∃ z, k9 = z + 1 := ⟨k9 - 1, by omega⟩
        refine lv_aload_n hx hb dP_solidBefore_12 rfl (lv_at hl 0 rfl) ?_
        refine lv_iload_n hx hb dP_solidBefore_13 rfl (lv_at hl 3 rfl) ?_
        refine g_ViR (i := 1) (As := [.int (nI i)]) (rest := []) (kP_isTold hA ⟨hsP1, hsP2, hsP3, hsP4, hsP5, hsP6, hsP7, hsP8⟩ i (by omega)) calP_isTold cvP_isTold mlP_56 hx hb hml hown hts hB hG hK hS (by decide) hsP1 rfl ⟨by decide, by decide⟩ rfl hl.1 rfl (Nat.le_of_ble_eq_true rfl) dP_solidBefore_14 ⟨by decide, by decide⟩ (fun H locs hG hS => ?_)
        refine lb_if_eq (tgt := 32) hx hb dP_solidBefore_17 (by decide) (fun c2 => ?_) (fun c2 => ?_)
        · refine lv_iinc (v := (nI (i + 1))) (lv' := [(3, .int (nI (i + 1))), (0, .ref (a 1)), (1, .int (nI j)), (2, .int (nI b))]) hx hb dP_solidBefore_32 hl (k := 3) rfl (nI_add i 1) (by decide) rfl (fun ls hl => ?_)
          refine lv_goto (tgt := 4) hx hb dP_solidBefore_35 (by decide) ?_
          exact ih4 k8 (by omega) (i + 1) b (by omega) (by omega) (by first | (have := cntF_y (P := rBefP up lo j) (k := k8) (i := i) ⟨by assumption, by assumption⟩; omega) | (have := cntF_n (P := rBefP up lo j) (k := k8) (i := i) (fun h9 => by first | exact absurd h9.1 (by assumption) | exact absurd h9.2 (by assumption)); omega)) _ _ _ hG hS (lv_sub hl [1, 2, 3, 0] rfl)
        · refine lv_aload_n hx hb dP_solidBefore_20 rfl (lv_at hl 0 rfl) ?_
          refine lv_iload_n hx hb dP_solidBefore_21 rfl (lv_at hl 3 rfl) ?_
          refine lv_iload_n hx hb dP_solidBefore_22 rfl (lv_at hl 1 rfl) ?_
          refine g_ViR (i := 1) (As := [.int (nI i), .int (nI j)]) (rest := []) (kP_isEarlier hA ⟨hsP1, hsP2, hsP3, hsP4, hsP5, hsP6, hsP7, hsP8⟩ i j (by omega) (by omega)) calP_isEarlier cvP_isEarlier mlP_60 hx hb hml hown hts hB hG hK hS (by decide) hsP1 rfl ⟨by decide, by decide⟩ rfl hl.1 rfl (Nat.le_of_ble_eq_true rfl) dP_solidBefore_23 ⟨by decide, by decide⟩ (fun H locs hG hS => ?_)
          refine lb_if_eq (tgt := 32) hx hb dP_solidBefore_26 (by decide) (fun c3 => ?_) (fun c3 => ?_)
          · refine lv_iinc (v := (nI (i + 1))) (lv' := [(3, .int (nI (i + 1))), (0, .ref (a 1)), (1, .int (nI j)), (2, .int (nI b))]) hx hb dP_solidBefore_32 hl (k := 3) rfl (nI_add i 1) (by decide) rfl (fun ls hl => ?_)
            refine lv_goto (tgt := 4) hx hb dP_solidBefore_35 (by decide) ?_
            exact ih4 k8 (by omega) (i + 1) b (by omega) (by omega) (by first | (have := cntF_y (P := rBefP up lo j) (k := k8) (i := i) ⟨by assumption, by assumption⟩; omega) | (have := cntF_n (P := rBefP up lo j) (k := k8) (i := i) (fun h9 => by first | exact absurd h9.1 (by assumption) | exact absurd h9.2 (by assumption)); omega)) _ _ _ hG hS (lv_sub hl [1, 2, 3, 0] rfl)
          · refine lv_iinc (v := (nI (b + 1))) (lv' := [(2, .int (nI (b + 1))), (0, .ref (a 1)), (1, .int (nI j)), (3, .int (nI i))]) hx hb dP_solidBefore_29 hl (k := 2) rfl (nI_add b 1) (by decide) rfl (fun ls hl => ?_)
            refine lv_iinc (v := (nI (i + 1))) (lv' := [(3, .int (nI (i + 1))), (2, .int (nI (b + 1))), (0, .ref (a 1)), (1, .int (nI j))]) hx hb dP_solidBefore_32 hl (k := 3) rfl (nI_add i 1) (by decide) rfl (fun ls hl => ?_)
            refine lv_goto (tgt := 4) hx hb dP_solidBefore_35 (by decide) ?_
            exact ih4 k8 (by omega) (i + 1) (b + 1) (by omega) (by omega) (by first | (have := cntF_y (P := rBefP up lo j) (k := k8) (i := i) ⟨by assumption, by assumption⟩; omega) | (have := cntF_n (P := rBefP up lo j) (k := k8) (i := i) (fun h9 => by first | exact absurd h9.1 (by assumption) | exact absurd h9.2 (by assumption)); omega)) _ _ _ hG hS (lv_sub hl [2, 3, 1, 0] rfl)
  exact loop4 n 0 0 (by omega) (by omega) (Nat.zero_add _) _ _ _ hG hS (lv_sub hl [2, 3, 1, 0] rfl)

abbrev rmP_greatestNeighbour : Room := { frames := 2, cells := 0, slots := 0, locals := 45 }
set_option maxRecDepth 100000 in
set_option maxHeartbeats 4000000 in
theorem kP_greatestNeighbour {l : Launch} {D : va_G} {k : ClassId × ClassId × ClassId} {a : Nat → Nat} {B0 : Nat} {w : Nat → va_E} (hA : gA B0 a) {n : Nat} {up : Nat → Int64} {lo : Nat → Int64} {fa : Nat → Int32} {we : Nat → Int32} {ti : Nat → Int32} {ri : Nat → Int32} {jo : Nat → Int32} (hsP : sP k a w n up lo fa we ti ri jo) (j : Nat) (hn : n ≤ 12) (hj : j < 12) (hjo : ∀ z, z < 144 → narrow .boolean (.int (jo z)) = .int (jo z)) : Met l yP_greatestNeighbour (tbw yP_greatestNeighbour cP_greatestNeighbour 4 (some .int)) rmP_greatestNeighbour (gPc D k a B0 w [.ref (a 1), .int (nI j)]) (va_Qi (roP (rNbI up lo jo n j) w) (gB D k a) (gF B0)) 0 0 (gF B0) := by
  obtain ⟨hsP1, hsP2, hsP3, hsP4, hsP5, hsP6, hsP7, hsP8⟩ := hsP
  refine g_ofW (by decide) rfl (fun p e s m args below meth c Q hQ hx hb hr hlk hml hown hts hB hG hK hS ls hl => ?_)
  have hl : lv_has ls 4 [(0, .ref (a 1)), (1, .int (nI j))] := hl
  have hown : s.vm.findClass RP = some m.cls := hown
  refine lv_iload_n hx hb dP_greatestNeighbour_0 rfl (lv_at hl 1 rfl) ?_
  refine lv_istore_n (lv' := [(2, .int (nI j)), (0, .ref (a 1)), (1, .int (nI j))]) hx hb dP_greatestNeighbour_1 rfl hl (by decide) rfl (fun ls hl => ?_)
  refine lv_iconst (v := 0) hx hb dP_greatestNeighbour_2 (by decide) ?_
  refine lv_istore_n (lv' := [(3, .int 0), (2, .int (nI j)), (0, .ref (a 1)), (1, .int (nI j))]) hx hb dP_greatestNeighbour_3 rfl hl (by decide) rfl (fun ls hl => ?_)
  have loop4 : ∀ (k9 : Nat) (i : Nat) (g : Nat) (hi : i + k9 = n) (hg9 : g < 12) (hres : bstF (rNbP up lo jo j) k9 i g = rNb up lo jo n j) (H : Heap) (locs : List Loc) (ls : Array Slot), gW D a w H → va_S (gF B0) s.heap H locs → lv_has ls 4 [(0, .ref (a 1)), (1, .int (nI j)), (2, .int (nI g)), (3, .int (nI i))] → W p l e rmP_greatestNeighbour s m args below meth c H locs 0 0 Q (F0 m 4 ls []) := by
    intro k9
    induction k9 using Nat.strongRecOn with
    | _ k9 ih4 =>
      intro i g hi hg9 hres H locs ls hG hS hl
      refine lv_iload_n hx hb dP_greatestNeighbour_4 rfl (lv_at hl 3 rfl) ?_
      refine lv_aload_n hx hb dP_greatestNeighbour_5 rfl (lv_at hl 0 rfl) ?_
      refine g_get hx hb hts inP hown hK hG 1 (by decide) hsP1 rfl 7 (by decide) lkP_35 rfl dP_greatestNeighbour_6 ?_
      refine ln_icmp_ge (x := i) (y := n) (tgt := 46) hx hb dP_greatestNeighbour_9 (by decide) (by omega) (by omega) (fun c1 => ?_) (fun c1 => ?_)
      · obtain rfl : k9 = 0 := by omega
        refine lv_iload_n hx hb dP_greatestNeighbour_46 rfl (lv_at hl 2 rfl) ?_
        refine lv_iload_n hx hb dP_greatestNeighbour_47 rfl (lv_at hl 1 rfl) ?_
        refine ln_icmp_ne (x := g) (y := j) (tgt := 55) hx hb dP_greatestNeighbour_48 (by decide) (by omega) (by omega) (fun c2 => ?_) (fun c2 => ?_)
        · refine lv_iload_n hx hb dP_greatestNeighbour_55 rfl (lv_at hl 2 rfl) ?_
          exact g_iret hQ hx hb hr hlk hG hK hS (by decide) (by decide) ⟨by unfold rNbI; rw [if_neg (by rw [← hres]; show ¬ g = j; omega), ← hres]; rfl, rfl⟩ dP_greatestNeighbour_56
        · refine lv_iconst (v := (-1)) hx hb dP_greatestNeighbour_51 (by decide) ?_
          refine lv_goto (tgt := 56) hx hb dP_greatestNeighbour_52 (by decide) ?_
          exact g_iret hQ hx hb hr hlk hG hK hS (by decide) (by decide) ⟨by unfold rNbI; rw [if_pos (by rw [← hres]; show g = j; omega)], rfl⟩ dP_greatestNeighbour_56
      · obtain ⟨k8, rfl⟩ : ∃ z, k9 = z + 1 := ⟨k9 - 1, by omega⟩
        refine lv_aload_n hx hb dP_greatestNeighbour_12 rfl (lv_at hl 0 rfl) ?_
        refine lv_iload_n hx hb dP_greatestNeighbour_13 rfl (lv_at hl 1 rfl) ?_
        refine lv_iload_n hx hb dP_greatestNeighbour_14 rfl (lv_at hl 3 rfl) ?_
        refine g_ViR (i := 1) (As := [.int (nI j), .int (nI i)]) (rest := []) (kP_areJoined hA ⟨hsP1, hsP2, hsP3, hsP4, hsP5, hsP6, hsP7, hsP8⟩ j i (by omega) (by omega) (hjo _ (by omega))) calP_areJoined cvP_areJoined mlP_67 hx hb hml hown hts hB hG hK hS (by decide) hsP1 rfl ⟨by decide, by decide⟩ rfl hl.1 rfl (Nat.le_of_ble_eq_true rfl) dP_greatestNeighbour_15 ⟨by decide, by decide⟩ (fun H locs hG hS => ?_)
        refine lv_if_eq (tgt := 40) hx hb dP_greatestNeighbour_18 (by decide) (fun c3 => ?_) (fun c3 => ?_)
        · refine lv_iinc (v := (nI (i + 1))) (lv' := [(3, .int (nI (i + 1))), (0, .ref (a 1)), (1, .int (nI j)), (2, .int (nI g))]) hx hb dP_greatestNeighbour_40 hl (k := 3) rfl (nI_add i 1) (by decide) rfl (fun ls hl => ?_)
          refine lv_goto (tgt := 4) hx hb dP_greatestNeighbour_43 (by decide) ?_
          exact ih4 k8 (by omega) (i + 1) g (by omega) (by omega) (by first | exact (bstF_y (B := rNbP up lo jo j) (k := k8) (i := i) (g := g) ⟨by assumption, by assumption, by assumption⟩).symm.trans hres | exact (bstF_n (B := rNbP up lo jo j) (k := k8) (i := i) (g := g) (fun h9 => by first | exact absurd (by assumption) h9.1 | exact absurd h9.2.1 (by assumption) | exact absurd (by assumption) h9.2.2)).symm.trans hres) _ _ _ hG hS (lv_sub hl [1, 2, 3, 0] rfl)
        · refine lv_aload_n hx hb dP_greatestNeighbour_21 rfl (lv_at hl 0 rfl) ?_
          refine lv_iload_n hx hb dP_greatestNeighbour_22 rfl (lv_at hl 3 rfl) ?_
          refine g_ViR (i := 1) (As := [.int (nI i)]) (rest := []) (kP_isTold hA ⟨hsP1, hsP2, hsP3, hsP4, hsP5, hsP6, hsP7, hsP8⟩ i (by omega)) calP_isTold cvP_isTold mlP_56 hx hb hml hown hts hB hG hK hS (by decide) hsP1 rfl ⟨by decide, by decide⟩ rfl hl.1 rfl (Nat.le_of_ble_eq_true rfl) dP_greatestNeighbour_23 ⟨by decide, by decide⟩ (fun H locs hG hS => ?_)
          refine lb_if_eq (tgt := 40) hx hb dP_greatestNeighbour_26 (by decide) (fun c4 => ?_) (fun c4 => ?_)
          · refine lv_iinc (v := (nI (i + 1))) (lv' := [(3, .int (nI (i + 1))), (0, .ref (a 1)), (1, .int (nI j)), (2, .int (nI g))]) hx hb dP_greatestNeighbour_40 hl (k := 3) rfl (nI_add i 1) (by decide) rfl (fun ls hl => ?_)
            refine lv_goto (tgt := 4) hx hb dP_greatestNeighbour_43 (by decide) ?_
            exact ih4 k8 (by omega) (i + 1) g (by omega) (by omega) (by first | exact (bstF_y (B := rNbP up lo jo j) (k := k8) (i := i) (g := g) ⟨by assumption, by assumption, by assumption⟩).symm.trans hres | exact (bstF_n (B := rNbP up lo jo j) (k := k8) (i := i) (g := g) (fun h9 => by first | exact absurd (by assumption) h9.1 | exact absurd h9.2.1 (by assumption) | exact absurd (by assumption) h9.2.2)).symm.trans hres) _ _ _ hG hS (lv_sub hl [1, 2, 3, 0] rfl)
          · refine lv_aload_n hx hb dP_greatestNeighbour_29 rfl (lv_at hl 0 rfl) ?_
            refine lv_iload_n hx hb dP_greatestNeighbour_30 rfl (lv_at hl 3 rfl) ?_
            refine lv_iload_n hx hb dP_greatestNeighbour_31 rfl (lv_at hl 2 rfl) ?_
            refine g_ViR (i := 1) (As := [.int (nI i), .int (nI g)]) (rest := []) (kP_compare hA ⟨hsP1, hsP2, hsP3, hsP4, hsP5, hsP6, hsP7, hsP8⟩ i g (by omega) (by omega)) calP_compare cvP_compare mlP_64 hx hb hml hown hts hB hG hK hS (by decide) hsP1 rfl ⟨by decide, by decide⟩ rfl hl.1 rfl (Nat.le_of_ble_eq_true rfl) dP_greatestNeighbour_32 ⟨by decide, by decide⟩ (fun H locs hG hS => ?_)
            refine lv_if_le (tgt := 40) hx hb dP_greatestNeighbour_35 (by decide) (fun c5 => ?_) (fun c5 => ?_)
            · refine lv_iinc (v := (nI (i + 1))) (lv' := [(3, .int (nI (i + 1))), (0, .ref (a 1)), (1, .int (nI j)), (2, .int (nI g))]) hx hb dP_greatestNeighbour_40 hl (k := 3) rfl (nI_add i 1) (by decide) rfl (fun ls hl => ?_)
              refine lv_goto (tgt := 4) hx hb dP_greatestNeighbour_43 (by decide) ?_
              exact ih4 k8 (by omega) (i + 1) g (by omega) (by omega) (by first | exact (bstF_y (B := rNbP up lo jo j) (k := k8) (i := i) (g := g) ⟨by assumption, by assumption, by assumption⟩).symm.trans hres | exact (bstF_n (B := rNbP up lo jo j) (k := k8) (i := i) (g := g) (fun h9 => by first | exact absurd (by assumption) h9.1 | exact absurd h9.2.1 (by assumption) | exact absurd (by assumption) h9.2.2)).symm.trans hres) _ _ _ hG hS (lv_sub hl [1, 2, 3, 0] rfl)
            · refine lv_iload_n hx hb dP_greatestNeighbour_38 rfl (lv_at hl 3 rfl) ?_
              refine lv_istore_n (lv' := [(2, .int (nI i)), (0, .ref (a 1)), (1, .int (nI j)), (3, .int (nI i))]) hx hb dP_greatestNeighbour_39 rfl hl (by decide) rfl (fun ls hl => ?_)
              refine lv_iinc (v := (nI (i + 1))) (lv' := [(3, .int (nI (i + 1))), (2, .int (nI i)), (0, .ref (a 1)), (1, .int (nI j))]) hx hb dP_greatestNeighbour_40 hl (k := 3) rfl (nI_add i 1) (by decide) rfl (fun ls hl => ?_)
              refine lv_goto (tgt := 4) hx hb dP_greatestNeighbour_43 (by decide) ?_
              exact ih4 k8 (by omega) (i + 1) i (by omega) (by omega) (by first | exact (bstF_y (B := rNbP up lo jo j) (k := k8) (i := i) (g := g) ⟨by assumption, by assumption, by assumption⟩).symm.trans hres | exact (bstF_n (B := rNbP up lo jo j) (k := k8) (i := i) (g := g) (fun h9 => by first | exact absurd (by assumption) h9.1 | exact absurd h9.2.1 (by assumption) | exact absurd (by assumption) h9.2.2)).symm.trans hres) _ _ _ hG hS (lv_sub hl [2, 3, 1, 0] rfl)
  exact loop4 n 0 j (by omega) (by omega) rfl _ _ _ hG hS (lv_sub hl [2, 3, 1, 0] rfl)

abbrev rmR_isFull : Room := { frames := 0, cells := 0, slots := 0, locals := 0 }
set_option maxRecDepth 100000 in
set_option maxHeartbeats 4000000 in
theorem kR_isFull {l : Launch} {D : va_G} {k : ClassId × ClassId × ClassId} {a : Nat → Nat} {B0 : Nat} {w : Nat → va_E} (hA : gA B0 a) {nr : Nat} {ru : Nat → Int64} {rl : Nat → Int64} (hsR : sR k a w nr ru rl) (hn : nr ≤ 8) : Met l yR_isFull (tbw yR_isFull cR_isFull 1 (some .boolean)) rmR_isFull (gPc D k a B0 w [.ref (a 9)]) (va_Qi (roP (b2i (8 ≤ nr)) w) (gB D k a) (gF B0)) 0 0 (gF B0) := by
  obtain ⟨hsR9, hsR10, hsR11⟩ := hsR
  refine g_ofW (by decide) rfl (fun p e s m args below meth c Q hQ hx hb hr hlk hml hown hts hB hG hK hS ls hl => ?_)
  have hl : lv_has ls 1 [(0, .ref (a 9))] := hl
  have hown : s.vm.findClass RR = some m.cls := hown
  refine lv_aload_n hx hb dR_isFull_0 rfl (lv_at hl 0 rfl) ?_
  refine g_get hx hb hts inR hown hK hG 9 (by decide) hsR9 rfl 2 (by decide) lkR_18 rfl dR_isFull_1 ?_
  refine lv_bipush (v := 8) hx hb dR_isFull_4 (by decide) ?_
  refine ln_icmp_lt (x := nr) (y := 8) (tgt := 13) hx hb dR_isFull_6 (by decide) (by omega) (by decide) (fun c1 => ?_) (fun c1 => ?_)
  · refine lv_iconst (v := 0) hx hb dR_isFull_13 (by decide) ?_
    exact g_zret hQ hx hb hr hlk hG hK hS (by decide) (by decide) (by decide) ⟨(b2i_f (by first | rfl | omega | (simp_all; done) | grind)).symm, rfl⟩ dR_isFull_14
  · refine lv_iconst (v := 1) hx hb dR_isFull_9 (by decide) ?_
    refine lv_goto (tgt := 14) hx hb dR_isFull_10 (by decide) ?_
    exact g_zret hQ hx hb hr hlk hG hK hS (by decide) (by decide) (by decide) ⟨(b2i_t (by first | rfl | omega | (simp_all; done) | grind)).symm, rfl⟩ dR_isFull_14

abbrev rmR_addRow : Room := { frames := 0, cells := 0, slots := 0, locals := 0 }
set_option maxRecDepth 100000 in
set_option maxHeartbeats 4000000 in
theorem kR_addRow {l : Launch} {D : va_G} {k : ClassId × ClassId × ClassId} {a : Nat → Nat} {B0 : Nat} {w : Nat → va_E} (hA : gA B0 a) {nr : Nat} {ru : Nat → Int64} {rl : Nat → Int64} (hsR : sR k a w nr ru rl) (d : Int32) (h : Int32) (hn : nr < 8) : Met l yR_addRow (tbw yR_addRow cR_addRow 3 (some .int)) rmR_addRow (gPc D k a B0 w [.ref (a 9), .int d, .int h]) (va_Qi (fun rr9 w1 => rr9 = (nI (nr + 1)) ∧ (sR k a w1 (nr + 1) (vp_updL ru nr (d.toInt64 * h.toInt64)) (vp_updL rl nr (4 * h.toInt64 + d.toInt64))) ∧ ∀ z, z < 9 ∨ 11 < z → w1 z = w z) (gB D k a) (gF B0)) 0 0 (gF B0) := by
  obtain ⟨hsR9, hsR10, hsR11⟩ := hsR
  refine g_ofW (by decide) rfl (fun p e s m args below meth c Q hQ hx hb hr hlk hml hown hts hB hG hK hS ls hl => ?_)
  have hl : lv_has ls 3 [(0, .ref (a 9)), (1, .int d), (2, .int h)] := hl
  have hown : s.vm.findClass RR = some m.cls := hown
  have hfr0 : ∀ z, z < 9 ∨ 11 < z → w z = w z := fun _ _ => rfl
  refine lv_aload_n hx hb dR_addRow_0 rfl (lv_at hl 0 rfl) ?_
  refine g_get hx hb hts inR hown hK hG 9 (by decide) hsR9 rfl 0 (by decide) lkR_9 rfl dR_addRow_1 ?_
  refine lv_aload_n hx hb dR_addRow_4 rfl (lv_at hl 0 rfl) ?_
  refine g_get hx hb hts inR hown hK hG 9 (by decide) hsR9 rfl 2 (by decide) lkR_18 rfl dR_addRow_5 ?_
  refine lv_iload_n hx hb dR_addRow_8 rfl (lv_at hl 1 rfl) ?_
  refine lv_i2l hx hb dR_addRow_9 rfl ?_
  refine lv_iload_n hx hb dR_addRow_10 rfl (lv_at hl 2 rfl) ?_
  refine lv_i2l hx hb dR_addRow_11 rfl ?_
  refine lv_lmul hx hb dR_addRow_12 ?_
  refine g_last hx hb hK hA hG hS 10 (by decide) hsR10 (j := nr) (by omega) (by decide) dR_addRow_13 (fun H locs hG hS => ?_)
  obtain ⟨w1, hw2⟩ : ∃ zz9, zz9 = va_up w 10 (.inl (k.2.1, 8, .inr (.inl (vp_updL ru nr (d.toInt64 * h.toInt64))))) := ⟨_, rfl⟩
  replace hG : gW D a w1 H := by rw [hw2]; exact hG
  have h3 : w1 9 = .inr (2, [.ref (a 10), .ref (a 11), .int (nI nr)]) := by rw [hw2]; exact hsR9
  have h4 : w1 10 = .inl (k.2.1, 8, .inr (.inl (vp_updL ru nr (d.toInt64 * h.toInt64)))) := by rw [hw2]; rfl
  have h5 : w1 11 = .inl (k.2.1, 8, .inr (.inl rl)) := by rw [hw2]; exact hsR11
  have hfr6 : ∀ z, z < 9 ∨ 11 < z → w1 z = w z := fun z hz => by rw [hw2]; exact (va_up_ne _ _ (by omega)).trans (hfr0 z hz)
  refine lv_aload_n hx hb dR_addRow_14 rfl (lv_at hl 0 rfl) ?_
  refine g_get hx hb hts inR hown hK hG 9 (by decide) h3 rfl 1 (by decide) lkR_15 rfl dR_addRow_15 ?_
  refine lv_aload_n hx hb dR_addRow_18 rfl (lv_at hl 0 rfl) ?_
  refine g_get hx hb hts inR hown hK hG 9 (by decide) h3 rfl 2 (by decide) lkR_18 rfl dR_addRow_19 ?_
  refine lv_ldc2 (v := 4) hx hb hown (hts _ kcR_22) dR_addRow_22 ?_
  refine lv_iload_n hx hb dR_addRow_25 rfl (lv_at hl 2 rfl) ?_
  refine lv_i2l hx hb dR_addRow_26 rfl ?_
  refine lv_lmul hx hb dR_addRow_27 ?_
  refine lv_iload_n hx hb dR_addRow_28 rfl (lv_at hl 1 rfl) ?_
  refine lv_i2l hx hb dR_addRow_29 rfl ?_
  refine lv_ladd hx hb dR_addRow_30 ?_
  refine g_last hx hb hK hA hG hS 11 (by decide) h5 (j := nr) (by omega) (by decide) dR_addRow_31 (fun H locs hG hS => ?_)
  obtain ⟨w7, hw8⟩ : ∃ zz9, zz9 = va_up w1 11 (.inl (k.2.1, 8, .inr (.inl (vp_updL rl nr ((4 * h.toInt64) + d.toInt64))))) := ⟨_, rfl⟩
  replace hG : gW D a w7 H := by rw [hw8]; exact hG
  have h9 : w7 9 = .inr (2, [.ref (a 10), .ref (a 11), .int (nI nr)]) := by rw [hw8]; exact h3
  have h10 : w7 10 = .inl (k.2.1, 8, .inr (.inl (vp_updL ru nr (d.toInt64 * h.toInt64)))) := by rw [hw8]; exact h4
  have h11 : w7 11 = .inl (k.2.1, 8, .inr (.inl (vp_updL rl nr ((4 * h.toInt64) + d.toInt64)))) := by rw [hw8]; rfl
  have hfr12 : ∀ z, z < 9 ∨ 11 < z → w7 z = w z := fun z hz => by rw [hw8]; exact (va_up_ne _ _ (by omega)).trans (hfr6 z hz)
  refine lv_aload_n hx hb dR_addRow_32 rfl (lv_at hl 0 rfl) ?_
  refine lv_dup hx hb dR_addRow_33 rfl ?_
  refine g_get hx hb hts inR hown hK hG 9 (by decide) h9 rfl 2 (by decide) lkR_18 rfl dR_addRow_34 ?_
  refine lv_iconst (v := 1) hx hb dR_addRow_37 (by decide) ?_
  refine ln_iadd (x := nr) (y := 1) hx hb dR_addRow_38 ?_
  refine g_put hx hb hts inR tyR tokR nokR hown hK hA hG hS 9 (by decide) h9 rfl 2 (by decide) lkR_18 rfl (ty := .int) (by decide +kernel) rfl rfl (Nat.le_of_ble_eq_true rfl) dR_addRow_39 (fun H locs hG hS => ?_)
  obtain ⟨w13, hw14⟩ : ∃ zz9, zz9 = va_up w7 9 (.inr (2, [.ref (a 10), .ref (a 11), .int (nI (nr + 1))])) := ⟨_, rfl⟩
  replace hG : gW D a w13 H := by rw [hw14]; exact hG
  have h15 : w13 9 = .inr (2, [.ref (a 10), .ref (a 11), .int (nI (nr + 1))]) := by rw [hw14]; rfl
  have h16 : w13 10 = .inl (k.2.1, 8, .inr (.inl (vp_updL ru nr (d.toInt64 * h.toInt64)))) := by rw [hw14]; exact h10
  have h17 : w13 11 = .inl (k.2.1, 8, .inr (.inl (vp_updL rl nr ((4 * h.toInt64) + d.toInt64)))) := by rw [hw14]; exact h11
  have hfr18 : ∀ z, z < 9 ∨ 11 < z → w13 z = w z := fun z hz => by rw [hw14]; exact (va_up_ne _ _ (by omega)).trans (hfr12 z hz)
  refine lv_aload_n hx hb dR_addRow_42 rfl (lv_at hl 0 rfl) ?_
  refine g_get hx hb hts inR hown hK hG 9 (by decide) h15 rfl 2 (by decide) lkR_18 rfl dR_addRow_43 ?_
  exact g_iret hQ hx hb hr hlk hG hK hS (by decide) (by decide) ⟨by first | rfl | omega | (simp_all; done) | grind, ⟨h15, h16, h17⟩, hfr18⟩ dR_addRow_46

abbrev rmR_firstFor : Room := { frames := 0, cells := 0, slots := 0, locals := 0 }
set_option maxRecDepth 100000 in
set_option maxHeartbeats 4000000 in
theorem kR_firstFor {l : Launch} {D : va_G} {k : ClassId × ClassId × ClassId} {a : Nat → Nat} {B0 : Nat} {w : Nat → va_E} (hA : gA B0 a) {nr : Nat} {ru : Nat → Int64} {rl : Nat → Int64} (hsR : sR k a w nr ru rl) (u : Int64) (v : Int64) (hn : nr ≤ 8) : Met l yR_firstFor (tbw yR_firstFor cR_firstFor 6 (some .int)) rmR_firstFor (gPc D k a B0 w [.ref (a 9), .long u, .long v]) (va_Qi (roP (fstF (rFitP ru rl u v) nr 0) w) (gB D k a) (gF B0)) 0 0 (gF B0) := by
  obtain ⟨hsR9, hsR10, hsR11⟩ := hsR
  refine g_ofW (by decide) rfl (fun p e s m args below meth c Q hQ hx hb hr hlk hml hown hts hB hG hK hS ls hl => ?_)
  have hl : lv_has ls 6 [(0, .ref (a 9)), (1, .long u), (3, .long v)] := hl
  have hown : s.vm.findClass RR = some m.cls := hown
  refine lv_iconst (v := 0) hx hb dR_firstFor_0 (by decide) ?_
  refine lv_istore (lv' := [(5, .int 0), (0, .ref (a 9)), (1, .long u), (3, .long v)]) hx hb dR_firstFor_1 hl (by decide) rfl (fun ls hl => ?_)
  have loop3 : ∀ (k9 : Nat) (i : Nat) (hi : i + k9 = nr) (hres : fstF (rFitP ru rl u v) k9 i = fstF (rFitP ru rl u v) nr 0) (H : Heap) (locs : List Loc) (ls : Array Slot), gW D a w H → va_S (gF B0) s.heap H locs → lv_has ls 6 [(0, .ref (a 9)), (1, .long u), (3, .long v), (5, .int (nI i))] → W p l e rmR_firstFor s m args below meth c H locs 0 0 Q (F0 m 3 ls []) := by
    intro k9
    induction k9 using Nat.strongRecOn with
    | _ k9 ih3 =>
      intro i hi hres H locs ls hG hS hl
      refine lv_iload hx hb dR_firstFor_3 (lv_at hl 3 rfl) ?_
      refine lv_aload_n hx hb dR_firstFor_5 rfl (lv_at hl 0 rfl) ?_
      refine g_get hx hb hts inR hown hK hG 9 (by decide) hsR9 rfl 2 (by decide) lkR_18 rfl dR_firstFor_6 ?_
      refine ln_icmp_ge (x := i) (y := nr) (tgt := 51) hx hb dR_firstFor_9 (by decide) (by omega) (by omega) (fun c1 => ?_) (fun c1 => ?_)
      · obtain rfl : k9 = 0 := by omega
        refine lv_iconst (v := (-1)) hx hb dR_firstFor_51 (by decide) ?_
        exact g_iret hQ hx hb hr hlk hG hK hS (by decide) (by decide) ⟨by exact hres, rfl⟩ dR_firstFor_52
      · obtain ⟨k8, rfl⟩ : ∃ z, k9 = z + 1 := ⟨k9 - 1, by omega⟩
        refine lv_ldc2 (v := 5) hx hb hown (hts _ kcR_24) dR_firstFor_12 ?_
        refine lv_aload_n hx hb dR_firstFor_15 rfl (lv_at hl 0 rfl) ?_
        refine g_get hx hb hts inR hown hK hG 9 (by decide) hsR9 rfl 0 (by decide) lkR_9 rfl dR_firstFor_16 ?_
        refine lv_iload hx hb dR_firstFor_19 (lv_at hl 3 rfl) ?_
        refine g_lald hx hb hK hG 10 (by decide) hsR10 (j := i) (by omega) (by decide) dR_firstFor_21 ?_
        refine lv_lmul hx hb dR_firstFor_22 ?_
        refine lv_lload_n hx hb dR_firstFor_23 rfl (lv_at hl 2 rfl) ?_
        refine lv_lmul hx hb dR_firstFor_24 ?_
        refine lv_ldc2 (v := 6) hx hb hown (hts _ kcR_26) dR_firstFor_25 ?_
        refine lv_lload_n hx hb dR_firstFor_28 rfl (lv_at hl 1 rfl) ?_
        refine lv_lmul hx hb dR_firstFor_29 ?_
        refine lv_aload_n hx hb dR_firstFor_30 rfl (lv_at hl 0 rfl) ?_
        refine g_get hx hb hts inR hown hK hG 9 (by decide) hsR9 rfl 1 (by decide) lkR_15 rfl dR_firstFor_31 ?_
        refine lv_iload hx hb dR_firstFor_34 (lv_at hl 3 rfl) ?_
        refine g_lald hx hb hK hG 11 (by decide) hsR11 (j := i) (by omega) (by decide) dR_firstFor_36 ?_
        refine lv_lmul hx hb dR_firstFor_37 ?_
        refine W.lcmp hx hb dR_firstFor_38 ?_
        refine lc_if_lt (tgt := 45) hx hb dR_firstFor_39 (by decide) (fun c2 => ?_) (fun c2 => ?_)
        · refine lv_iinc (v := (nI (i + 1))) (lv' := [(5, .int (nI (i + 1))), (0, .ref (a 9)), (1, .long u), (3, .long v)]) hx hb dR_firstFor_45 hl (k := 3) rfl (nI_add i 1) (by decide) rfl (fun ls hl => ?_)
          refine lv_goto (tgt := 3) hx hb dR_firstFor_48 (by decide) ?_
          exact ih3 k8 (by omega) (i + 1) (by omega) ((fstF_n (P := rFitP ru rl u v) (k := k8) (i := i) (Int64.not_le.mpr (by assumption))).symm.trans hres) _ _ _ hG hS (lv_sub hl [1, 2, 3, 0] rfl)
        · refine lv_iload hx hb dR_firstFor_42 (lv_at hl 3 rfl) ?_
          exact g_iret hQ hx hb hr hlk hG hK hS (by decide) (by decide) ⟨by exact (fstF_y (P := rFitP ru rl u v) (k := k8) (i := i) (by assumption)).symm.trans hres, rfl⟩ dR_firstFor_44
  exact loop3 nr 0 (by omega) rfl _ _ _ hG hS (lv_sub hl [1, 2, 3, 0] rfl)

abbrev rmF_isFull : Room := { frames := 0, cells := 0, slots := 0, locals := 0 }
set_option maxRecDepth 100000 in
set_option maxHeartbeats 4000000 in
theorem kF_isFull {l : Launch} {D : va_G} {k : ClassId × ClassId × ClassId} {a : Nat → Nat} {B0 : Nat} {w : Nat → va_E} (hA : gA B0 a) {nf : Nat} {fo : Nat → Int32} {ff : Nat → Int32} (hsF : sF k a w nf fo ff) (hn : nf ≤ 8) : Met l yF_isFull (tbw yF_isFull cF_isFull 1 (some .boolean)) rmF_isFull (gPc D k a B0 w [.ref (a 12)]) (va_Qi (roP (b2i (8 ≤ nf)) w) (gB D k a) (gF B0)) 0 0 (gF B0) := by
  obtain ⟨hsF12, hsF13, hsF14⟩ := hsF
  refine g_ofW (by decide) rfl (fun p e s m args below meth c Q hQ hx hb hr hlk hml hown hts hB hG hK hS ls hl => ?_)
  have hl : lv_has ls 1 [(0, .ref (a 12))] := hl
  have hown : s.vm.findClass RF = some m.cls := hown
  refine lv_aload_n hx hb dF_isFull_0 rfl (lv_at hl 0 rfl) ?_
  refine g_get hx hb hts inF hown hK hG 12 (by decide) hsF12 rfl 2 (by decide) lkF_18 rfl dF_isFull_1 ?_
  refine lv_bipush (v := 8) hx hb dF_isFull_4 (by decide) ?_
  refine ln_icmp_lt (x := nf) (y := 8) (tgt := 13) hx hb dF_isFull_6 (by decide) (by omega) (by decide) (fun c1 => ?_) (fun c1 => ?_)
  · refine lv_iconst (v := 0) hx hb dF_isFull_13 (by decide) ?_
    exact g_zret hQ hx hb hr hlk hG hK hS (by decide) (by decide) (by decide) ⟨(b2i_f (by first | rfl | omega | (simp_all; done) | grind)).symm, rfl⟩ dF_isFull_14
  · refine lv_iconst (v := 1) hx hb dF_isFull_9 (by decide) ?_
    refine lv_goto (tgt := 14) hx hb dF_isFull_10 (by decide) ?_
    exact g_zret hQ hx hb hr hlk hG hK hS (by decide) (by decide) (by decide) ⟨(b2i_t (by first | rfl | omega | (simp_all; done) | grind)).symm, rfl⟩ dF_isFull_14

abbrev rmF_isEmpty : Room := { frames := 0, cells := 0, slots := 0, locals := 0 }
set_option maxRecDepth 100000 in
set_option maxHeartbeats 4000000 in
theorem kF_isEmpty {l : Launch} {D : va_G} {k : ClassId × ClassId × ClassId} {a : Nat → Nat} {B0 : Nat} {w : Nat → va_E} (hA : gA B0 a) {nf : Nat} {fo : Nat → Int32} {ff : Nat → Int32} (hsF : sF k a w nf fo ff) (hn : nf ≤ 8) : Met l yF_isEmpty (tbw yF_isEmpty cF_isEmpty 1 (some .boolean)) rmF_isEmpty (gPc D k a B0 w [.ref (a 12)]) (va_Qi (roP (b2i (nf = 0)) w) (gB D k a) (gF B0)) 0 0 (gF B0) := by
  obtain ⟨hsF12, hsF13, hsF14⟩ := hsF
  refine g_ofW (by decide) rfl (fun p e s m args below meth c Q hQ hx hb hr hlk hml hown hts hB hG hK hS ls hl => ?_)
  have hl : lv_has ls 1 [(0, .ref (a 12))] := hl
  have hown : s.vm.findClass RF = some m.cls := hown
  refine lv_aload_n hx hb dF_isEmpty_0 rfl (lv_at hl 0 rfl) ?_
  refine g_get hx hb hts inF hown hK hG 12 (by decide) hsF12 rfl 2 (by decide) lkF_18 rfl dF_isEmpty_1 ?_
  refine ln_if_ne (x := nf) (tgt := 11) hx hb dF_isEmpty_4 (by decide) (by omega) (fun c1 => ?_) (fun c1 => ?_)
  · refine lv_iconst (v := 0) hx hb dF_isEmpty_11 (by decide) ?_
    exact g_zret hQ hx hb hr hlk hG hK hS (by decide) (by decide) (by decide) ⟨(b2i_f (by first | rfl | omega | (simp_all; done) | grind)).symm, rfl⟩ dF_isEmpty_12
  · refine lv_iconst (v := 1) hx hb dF_isEmpty_7 (by decide) ?_
    refine lv_goto (tgt := 12) hx hb dF_isEmpty_8 (by decide) ?_
    exact g_zret hQ hx hb hr hlk hG hK hS (by decide) (by decide) (by decide) ⟨(b2i_t (by first | rfl | omega | (simp_all; done) | grind)).symm, rfl⟩ dF_isEmpty_12

abbrev rmF_mayFollow : Room := { frames := 0, cells := 0, slots := 0, locals := 0 }
set_option maxRecDepth 100000 in
set_option maxHeartbeats 4000000 in
theorem kF_mayFollow {l : Launch} {D : va_G} {k : ClassId × ClassId × ClassId} {a : Nat → Nat} {B0 : Nat} {w : Nat → va_E} (hA : gA B0 a) {nf : Nat} {fo : Nat → Int32} {ff : Nat → Int32} (hsF : sF k a w nf fo ff) (q : Int32) (f : Int32) (hn : nf ≤ 8) : Met l yF_mayFollow (tbw yF_mayFollow cF_mayFollow 3 (some .boolean)) rmF_mayFollow (gPc D k a B0 w [.ref (a 12), .int q, .int f]) (va_Qi (roP (b2i (nf = 0 ∨ (¬ q ≤ fo (nf - 1) ∧ ¬ f < ff (nf - 1)))) w) (gB D k a) (gF B0)) 0 0 (gF B0) := by
  obtain ⟨hsF12, hsF13, hsF14⟩ := hsF
  refine g_ofW (by decide) rfl (fun p e s m args below meth c Q hQ hx hb hr hlk hml hown hts hB hG hK hS ls hl => ?_)
  have hl : lv_has ls 3 [(0, .ref (a 12)), (1, .int q), (2, .int f)] := hl
  have hown : s.vm.findClass RF = some m.cls := hown
  refine lv_aload_n hx hb dF_mayFollow_0 rfl (lv_at hl 0 rfl) ?_
  refine g_get hx hb hts inF hown hK hG 12 (by decide) hsF12 rfl 2 (by decide) lkF_18 rfl dF_mayFollow_1 ?_
  refine ln_if_eq (x := nf) (tgt := 37) hx hb dF_mayFollow_4 (by decide) (by omega) (fun c1 => ?_) (fun c1 => ?_)
  · refine lv_iconst (v := 1) hx hb dF_mayFollow_37 (by decide) ?_
    refine lv_goto (tgt := 42) hx hb dF_mayFollow_38 (by decide) ?_
    exact g_zret hQ hx hb hr hlk hG hK hS (by decide) (by decide) (by decide) ⟨(b2i_t (by simp_all)).symm, rfl⟩ dF_mayFollow_42
  · refine lv_iload_n hx hb dF_mayFollow_7 rfl (lv_at hl 1 rfl) ?_
    refine lv_aload_n hx hb dF_mayFollow_8 rfl (lv_at hl 0 rfl) ?_
    refine g_get hx hb hts inF hown hK hG 12 (by decide) hsF12 rfl 0 (by decide) lkF_9 rfl dF_mayFollow_9 ?_
    refine lv_aload_n hx hb dF_mayFollow_12 rfl (lv_at hl 0 rfl) ?_
    refine g_get hx hb hts inF hown hK hG 12 (by decide) hsF12 rfl 2 (by decide) lkF_18 rfl dF_mayFollow_13 ?_
    refine lv_iconst (v := 1) hx hb dF_mayFollow_16 (by decide) ?_
    refine ln_isub (x := nf) (y := 1) hx hb dF_mayFollow_17 (by omega) ?_
    refine g_iald hx hb hK hG 13 (by decide) hsF13 (j := nf - 1) (by omega) (by decide) dF_mayFollow_18 ?_
    refine lv_icmp_le (tgt := 41) hx hb dF_mayFollow_19 (by decide) (fun c2 => ?_) (fun c2 => ?_)
    · refine lv_iconst (v := 0) hx hb dF_mayFollow_41 (by decide) ?_
      exact g_zret hQ hx hb hr hlk hG hK hS (by decide) (by decide) (by decide) ⟨(b2i_f (by simp_all)).symm, rfl⟩ dF_mayFollow_42
    · refine lv_iload_n hx hb dF_mayFollow_22 rfl (lv_at hl 2 rfl) ?_
      refine lv_aload_n hx hb dF_mayFollow_23 rfl (lv_at hl 0 rfl) ?_
      refine g_get hx hb hts inF hown hK hG 12 (by decide) hsF12 rfl 1 (by decide) lkF_15 rfl dF_mayFollow_24 ?_
      refine lv_aload_n hx hb dF_mayFollow_27 rfl (lv_at hl 0 rfl) ?_
      refine g_get hx hb hts inF hown hK hG 12 (by decide) hsF12 rfl 2 (by decide) lkF_18 rfl dF_mayFollow_28 ?_
      refine lv_iconst (v := 1) hx hb dF_mayFollow_31 (by decide) ?_
      refine ln_isub (x := nf) (y := 1) hx hb dF_mayFollow_32 (by omega) ?_
      refine g_iald hx hb hK hG 14 (by decide) hsF14 (j := nf - 1) (by omega) (by decide) dF_mayFollow_33 ?_
      refine lv_icmp_lt (tgt := 41) hx hb dF_mayFollow_34 (by decide) (fun c3 => ?_) (fun c3 => ?_)
      · refine lv_iconst (v := 0) hx hb dF_mayFollow_41 (by decide) ?_
        exact g_zret hQ hx hb hr hlk hG hK hS (by decide) (by decide) (by decide) ⟨(b2i_f (by simp_all)).symm, rfl⟩ dF_mayFollow_42
      · refine lv_iconst (v := 1) hx hb dF_mayFollow_37 (by decide) ?_
        refine lv_goto (tgt := 42) hx hb dF_mayFollow_38 (by decide) ?_
        exact g_zret hQ hx hb hr hlk hG hK hS (by decide) (by decide) (by decide) ⟨(b2i_t (by simp_all)).symm, rfl⟩ dF_mayFollow_42

abbrev rmF_addRow : Room := { frames := 0, cells := 0, slots := 0, locals := 0 }
set_option maxRecDepth 100000 in
set_option maxHeartbeats 4000000 in
theorem kF_addRow {l : Launch} {D : va_G} {k : ClassId × ClassId × ClassId} {a : Nat → Nat} {B0 : Nat} {w : Nat → va_E} (hA : gA B0 a) {nf : Nat} {fo : Nat → Int32} {ff : Nat → Int32} (hsF : sF k a w nf fo ff) (q : Int32) (f : Int32) (hn : nf < 8) : Met l yF_addRow (tbw yF_addRow cF_addRow 3 (some .int)) rmF_addRow (gPc D k a B0 w [.ref (a 12), .int q, .int f]) (va_Qi (fun rr9 w1 => rr9 = (nI (nf + 1)) ∧ (sF k a w1 (nf + 1) (upd fo nf q) (upd ff nf f)) ∧ ∀ z, z < 12 ∨ 14 < z → w1 z = w z) (gB D k a) (gF B0)) 0 0 (gF B0) := by
  obtain ⟨hsF12, hsF13, hsF14⟩ := hsF
  refine g_ofW (by decide) rfl (fun p e s m args below meth c Q hQ hx hb hr hlk hml hown hts hB hG hK hS ls hl => ?_)
  have hl : lv_has ls 3 [(0, .ref (a 12)), (1, .int q), (2, .int f)] := hl
  have hown : s.vm.findClass RF = some m.cls := hown
  have hfr0 : ∀ z, z < 12 ∨ 14 < z → w z = w z := fun _ _ => rfl
  refine lv_aload_n hx hb dF_addRow_0 rfl (lv_at hl 0 rfl) ?_
  refine g_get hx hb hts inF hown hK hG 12 (by decide) hsF12 rfl 0 (by decide) lkF_9 rfl dF_addRow_1 ?_
  refine lv_aload_n hx hb dF_addRow_4 rfl (lv_at hl 0 rfl) ?_
  refine g_get hx hb hts inF hown hK hG 12 (by decide) hsF12 rfl 2 (by decide) lkF_18 rfl dF_addRow_5 ?_
  refine lv_iload_n hx hb dF_addRow_8 rfl (lv_at hl 1 rfl) ?_
  refine g_iast hx hb hK hA hG hS 13 (by decide) hsF13 (j := nf) (by omega) (by decide) dF_addRow_9 (fun H locs hG hS => ?_)
  obtain ⟨w1, hw2⟩ : ∃ zz9, zz9 = va_up w 13 (.inl (k.1, 8, .inl (upd fo nf q))) := ⟨_, rfl⟩
  replace hG : gW D a w1 H := by rw [hw2]; exact hG
  have h3 : w1 12 = .inr (3, [.ref (a 13), .ref (a 14), .int (nI nf)]) := by rw [hw2]; exact hsF12
  have h4 : w1 13 = .inl (k.1, 8, .inl (upd fo nf q)) := by rw [hw2]; rfl
  have h5 : w1 14 = .inl (k.1, 8, .inl ff) := by rw [hw2]; exact hsF14
  have hfr6 : ∀ z, z < 12 ∨ 14 < z → w1 z = w z := fun z hz => by rw [hw2]; exact (va_up_ne _ _ (by omega)).trans (hfr0 z hz)
  refine lv_aload_n hx hb dF_addRow_10 rfl (lv_at hl 0 rfl) ?_
  refine g_get hx hb hts inF hown hK hG 12 (by decide) h3 rfl 1 (by decide) lkF_15 rfl dF_addRow_11 ?_
  refine lv_aload_n hx hb dF_addRow_14 rfl (lv_at hl 0 rfl) ?_
  refine g_get hx hb hts inF hown hK hG 12 (by decide) h3 rfl 2 (by decide) lkF_18 rfl dF_addRow_15 ?_
  refine lv_iload_n hx hb dF_addRow_18 rfl (lv_at hl 2 rfl) ?_
  refine g_iast hx hb hK hA hG hS 14 (by decide) h5 (j := nf) (by omega) (by decide) dF_addRow_19 (fun H locs hG hS => ?_)
  obtain ⟨w7, hw8⟩ : ∃ zz9, zz9 = va_up w1 14 (.inl (k.1, 8, .inl (upd ff nf f))) := ⟨_, rfl⟩
  replace hG : gW D a w7 H := by rw [hw8]; exact hG
  have h9 : w7 12 = .inr (3, [.ref (a 13), .ref (a 14), .int (nI nf)]) := by rw [hw8]; exact h3
  have h10 : w7 13 = .inl (k.1, 8, .inl (upd fo nf q)) := by rw [hw8]; exact h4
  have h11 : w7 14 = .inl (k.1, 8, .inl (upd ff nf f)) := by rw [hw8]; rfl
  have hfr12 : ∀ z, z < 12 ∨ 14 < z → w7 z = w z := fun z hz => by rw [hw8]; exact (va_up_ne _ _ (by omega)).trans (hfr6 z hz)
  refine lv_aload_n hx hb dF_addRow_20 rfl (lv_at hl 0 rfl) ?_
  refine lv_dup hx hb dF_addRow_21 rfl ?_
  refine g_get hx hb hts inF hown hK hG 12 (by decide) h9 rfl 2 (by decide) lkF_18 rfl dF_addRow_22 ?_
  refine lv_iconst (v := 1) hx hb dF_addRow_25 (by decide) ?_
  refine ln_iadd (x := nf) (y := 1) hx hb dF_addRow_26 ?_
  refine g_put hx hb hts inF tyF tokF nokF hown hK hA hG hS 12 (by decide) h9 rfl 2 (by decide) lkF_18 rfl (ty := .int) (by decide +kernel) rfl rfl (Nat.le_of_ble_eq_true rfl) dF_addRow_27 (fun H locs hG hS => ?_)
  obtain ⟨w13, hw14⟩ : ∃ zz9, zz9 = va_up w7 12 (.inr (3, [.ref (a 13), .ref (a 14), .int (nI (nf + 1))])) := ⟨_, rfl⟩
  replace hG : gW D a w13 H := by rw [hw14]; exact hG
  have h15 : w13 12 = .inr (3, [.ref (a 13), .ref (a 14), .int (nI (nf + 1))]) := by rw [hw14]; rfl
  have h16 : w13 13 = .inl (k.1, 8, .inl (upd fo nf q)) := by rw [hw14]; exact h10
  have h17 : w13 14 = .inl (k.1, 8, .inl (upd ff nf f)) := by rw [hw14]; exact h11
  have hfr18 : ∀ z, z < 12 ∨ 14 < z → w13 z = w z := fun z hz => by rw [hw14]; exact (va_up_ne _ _ (by omega)).trans (hfr12 z hz)
  refine lv_aload_n hx hb dF_addRow_30 rfl (lv_at hl 0 rfl) ?_
  refine g_get hx hb hts inF hown hK hG 12 (by decide) h15 rfl 2 (by decide) lkF_18 rfl dF_addRow_31 ?_
  exact g_iret hQ hx hb hr hlk hG hK hS (by decide) (by decide) ⟨by first | rfl | omega | (simp_all; done) | grind, ⟨h15, h16, h17⟩, hfr18⟩ dF_addRow_34

abbrev rmF_flowBetween : Room := { frames := 0, cells := 0, slots := 0, locals := 0 }
set_option maxRecDepth 100000 in
set_option maxHeartbeats 4000000 in
theorem kF_flowBetween {l : Launch} {D : va_G} {k : ClassId × ClassId × ClassId} {a : Nat → Nat} {B0 : Nat} {w : Nat → va_E} (hA : gA B0 a) {nf : Nat} {fo : Nat → Int32} {ff : Nat → Int32} (hsF : sF k a w nf fo ff) (i : Nat) (j : Nat) (q : Int32) (hi : i < 8) (hj : j < 8) : Met l yF_flowBetween (tbw yF_flowBetween cF_flowBetween 7 (some .int)) rmF_flowBetween (gPc D k a B0 w [.ref (a 12), .int (nI i), .int (nI j), .int q]) (va_Qi (roP (btw fo ff i j q) w) (gB D k a) (gF B0)) 0 0 (gF B0) := by
  obtain ⟨hsF12, hsF13, hsF14⟩ := hsF
  refine g_ofW (by decide) rfl (fun p e s m args below meth c Q hQ hx hb hr hlk hml hown hts hB hG hK hS ls hl => ?_)
  have hl : lv_has ls 7 [(0, .ref (a 12)), (1, .int (nI i)), (2, .int (nI j)), (3, .int q)] := hl
  have hown : s.vm.findClass RF = some m.cls := hown
  refine lv_aload_n hx hb dF_flowBetween_0 rfl (lv_at hl 0 rfl) ?_
  refine g_get hx hb hts inF hown hK hG 12 (by decide) hsF12 rfl 0 (by decide) lkF_9 rfl dF_flowBetween_1 ?_
  refine lv_iload_n hx hb dF_flowBetween_4 rfl (lv_at hl 2 rfl) ?_
  refine g_iald hx hb hK hG 13 (by decide) hsF13 (j := j) (by omega) (by decide) dF_flowBetween_5 ?_
  refine lv_aload_n hx hb dF_flowBetween_6 rfl (lv_at hl 0 rfl) ?_
  refine g_get hx hb hts inF hown hK hG 12 (by decide) hsF12 rfl 0 (by decide) lkF_9 rfl dF_flowBetween_7 ?_
  refine lv_iload_n hx hb dF_flowBetween_10 rfl (lv_at hl 1 rfl) ?_
  refine g_iald hx hb hK hG 13 (by decide) hsF13 (j := i) (by omega) (by decide) dF_flowBetween_11 ?_
  refine lv_isub hx hb dF_flowBetween_12 ?_
  refine lv_istore (lv' := [(4, .int ((fo j) - (fo i))), (0, .ref (a 12)), (1, .int (nI i)), (2, .int (nI j)), (3, .int q)]) hx hb dF_flowBetween_13 hl (by decide) rfl (fun ls hl => ?_)
  refine lv_iload hx hb dF_flowBetween_15 (lv_at hl 0 rfl) ?_
  refine lv_if_gt (tgt := 27) hx hb dF_flowBetween_17 (by decide) (fun c1 => ?_) (fun c1 => ?_)
  · refine lv_aload_n hx hb dF_flowBetween_27 rfl (lv_at hl 1 rfl) ?_
    refine g_get hx hb hts inF hown hK hG 12 (by decide) hsF12 rfl 1 (by decide) lkF_15 rfl dF_flowBetween_28 ?_
    refine lv_iload_n hx hb dF_flowBetween_31 rfl (lv_at hl 3 rfl) ?_
    refine g_iald hx hb hK hG 14 (by decide) hsF14 (j := j) (by omega) (by decide) dF_flowBetween_32 ?_
    refine lv_aload_n hx hb dF_flowBetween_33 rfl (lv_at hl 1 rfl) ?_
    refine g_get hx hb hts inF hown hK hG 12 (by decide) hsF12 rfl 1 (by decide) lkF_15 rfl dF_flowBetween_34 ?_
    refine lv_iload_n hx hb dF_flowBetween_37 rfl (lv_at hl 2 rfl) ?_
    refine g_iald hx hb hK hG 14 (by decide) hsF14 (j := i) (by omega) (by decide) dF_flowBetween_38 ?_
    refine lv_isub hx hb dF_flowBetween_39 ?_
    refine lv_i2l hx hb dF_flowBetween_40 rfl ?_
    refine lv_lstore (lv' := [(5, .long (((ff j) - (ff i)).toInt64)), (4, .int ((fo j) - (fo i))), (0, .ref (a 12)), (1, .int (nI i)), (2, .int (nI j)), (3, .int q)]) hx hb dF_flowBetween_41 hl (by decide) rfl (fun ls hl => ?_)
    refine lv_aload_n hx hb dF_flowBetween_43 rfl (lv_at hl 2 rfl) ?_
    refine g_get hx hb hts inF hown hK hG 12 (by decide) hsF12 rfl 1 (by decide) lkF_15 rfl dF_flowBetween_44 ?_
    refine lv_iload_n hx hb dF_flowBetween_47 rfl (lv_at hl 3 rfl) ?_
    refine g_iald hx hb hK hG 14 (by decide) hsF14 (j := i) (by omega) (by decide) dF_flowBetween_48 ?_
    refine lv_lload hx hb dF_flowBetween_49 (lv_at hl 0 rfl) ?_
    refine lv_iload_n hx hb dF_flowBetween_51 rfl (lv_at hl 5 rfl) ?_
    refine lv_aload_n hx hb dF_flowBetween_52 rfl (lv_at hl 2 rfl) ?_
    refine g_get hx hb hts inF hown hK hG 12 (by decide) hsF12 rfl 0 (by decide) lkF_9 rfl dF_flowBetween_53 ?_
    refine lv_iload_n hx hb dF_flowBetween_56 rfl (lv_at hl 3 rfl) ?_
    refine g_iald hx hb hK hG 13 (by decide) hsF13 (j := i) (by omega) (by decide) dF_flowBetween_57 ?_
    refine lv_isub hx hb dF_flowBetween_58 ?_
    refine lv_i2l hx hb dF_flowBetween_59 rfl ?_
    refine lv_lmul hx hb dF_flowBetween_60 ?_
    refine lv_iload hx hb dF_flowBetween_61 (lv_at hl 1 rfl) ?_
    refine lv_i2l hx hb dF_flowBetween_63 rfl ?_
    refine lv_ldiv hx hb dF_flowBetween_64 (i64_ne (by assumption)) ?_
    refine lv_l2i hx hb dF_flowBetween_65 rfl ?_
    refine lv_iadd hx hb dF_flowBetween_66 ?_
    exact g_iret hQ hx hb hr hlk hG hK hS (by decide) (by decide) ⟨by exact (if_pos (by assumption)).symm, rfl⟩ dF_flowBetween_67
  · refine lv_aload_n hx hb dF_flowBetween_20 rfl (lv_at hl 1 rfl) ?_
    refine g_get hx hb hts inF hown hK hG 12 (by decide) hsF12 rfl 1 (by decide) lkF_15 rfl dF_flowBetween_21 ?_
    refine lv_iload_n hx hb dF_flowBetween_24 rfl (lv_at hl 2 rfl) ?_
    refine g_iald hx hb hK hG 14 (by decide) hsF14 (j := i) (by omega) (by decide) dF_flowBetween_25 ?_
    exact g_iret hQ hx hb hr hlk hG hK hS (by decide) (by decide) ⟨by exact (if_neg (by assumption)).symm, rfl⟩ dF_flowBetween_26

abbrev rmF_flowAt : Room := { frames := 1, cells := 0, slots := 0, locals := 26 }
set_option maxRecDepth 100000 in
set_option maxHeartbeats 4000000 in
theorem kF_flowAt {l : Launch} {D : va_G} {k : ClassId × ClassId × ClassId} {a : Nat → Nat} {B0 : Nat} {w : Nat → va_E} (hA : gA B0 a) {nf : Nat} {fo : Nat → Int32} {ff : Nat → Int32} (hsF : sF k a w nf fo ff) (q : Int32) (hn : nf ≤ 8) (h0 : 0 < nf) : Met l yF_flowAt (tbw yF_flowAt cF_flowAt 4 (some .int)) rmF_flowAt (gPc D k a B0 w [.ref (a 12), .int q]) (va_Qi (roP (flAt fo ff nf q) w) (gB D k a) (gF B0)) 0 0 (gF B0) := by
  obtain ⟨hsF12, hsF13, hsF14⟩ := hsF
  refine g_ofW (by decide) rfl (fun p e s m args below meth c Q hQ hx hb hr hlk hml hown hts hB hG hK hS ls hl => ?_)
  have hl : lv_has ls 4 [(0, .ref (a 12)), (1, .int q)] := hl
  have hown : s.vm.findClass RF = some m.cls := hown
  refine lv_aload_n hx hb dF_flowAt_0 rfl (lv_at hl 0 rfl) ?_
  refine g_get hx hb hts inF hown hK hG 12 (by decide) hsF12 rfl 1 (by decide) lkF_15 rfl dF_flowAt_1 ?_
  refine lv_iconst (v := 0) hx hb dF_flowAt_4 (by decide) ?_
  refine g_iald hx hb hK hG 14 (by decide) hsF14 (j := 0) (by omega) (by decide) dF_flowAt_5 ?_
  refine lv_istore_n (lv' := [(2, .int (ff 0)), (0, .ref (a 12)), (1, .int q)]) hx hb dF_flowAt_6 rfl hl (by decide) rfl (fun ls hl => ?_)
  refine lv_iload_n hx hb dF_flowAt_7 rfl (lv_at hl 2 rfl) ?_
  refine lv_aload_n hx hb dF_flowAt_8 rfl (lv_at hl 1 rfl) ?_
  refine g_get hx hb hts inF hown hK hG 12 (by decide) hsF12 rfl 0 (by decide) lkF_9 rfl dF_flowAt_9 ?_
  refine lv_iconst (v := 0) hx hb dF_flowAt_12 (by decide) ?_
  refine g_iald hx hb hK hG 13 (by decide) hsF13 (j := 0) (by omega) (by decide) dF_flowAt_13 ?_
  refine lv_icmp_gt (tgt := 19) hx hb dF_flowAt_14 (by decide) (fun c1 => ?_) (fun c1 => ?_)
  · refine lv_iconst (v := 1) hx hb dF_flowAt_19 (by decide) ?_
    refine lv_istore_n (lv' := [(3, .int 1), (2, .int (ff 0)), (0, .ref (a 12)), (1, .int q)]) hx hb dF_flowAt_20 rfl hl (by decide) rfl (fun ls hl => ?_)
    have loop21 : ∀ (k9 : Nat) (i : Nat) (r : Int32) (hi : i + k9 = nf) (hi1 : 1 ≤ i) (hres : flF fo ff q k9 i r = flAt fo ff nf q) (H : Heap) (locs : List Loc) (ls : Array Slot), gW D a w H → va_S (gF B0) s.heap H locs → lv_has ls 4 [(0, .ref (a 12)), (1, .int q), (2, .int r), (3, .int (nI i))] → W p l e rmF_flowAt s m args below meth c H locs 0 0 Q (F0 m 21 ls []) := by
      intro k9
      induction k9 using Nat.strongRecOn with
      | _ k9 ih21 =>
        intro i r hi hi1 hres H locs ls hG hS hl
        refine lv_iload_n hx hb dF_flowAt_21 rfl (lv_at hl 3 rfl) ?_
        refine lv_aload_n hx hb dF_flowAt_22 rfl (lv_at hl 0 rfl) ?_
        refine g_get hx hb hts inF hown hK hG 12 (by decide) hsF12 rfl 2 (by decide) lkF_18 rfl dF_flowAt_23 ?_
        refine ln_icmp_ge (x := i) (y := nf) (tgt := 62) hx hb dF_flowAt_26 (by decide) (by omega) (by omega) (fun c2 => ?_) (fun c2 => ?_)
        · obtain rfl : k9 = 0 := by omega
          refine lv_iload_n hx hb dF_flowAt_62 rfl (lv_at hl 2 rfl) ?_
          exact g_iret hQ hx hb hr hlk hG hK hS (by decide) (by decide) ⟨by exact hres, rfl⟩ dF_flowAt_63
        · obtain ⟨k8, rfl⟩ : ∃ z, k9 = z + 1 := ⟨k9 - 1, by omega⟩
          refine lv_iload_n hx hb dF_flowAt_29 rfl (lv_at hl 1 rfl) ?_
          refine lv_aload_n hx hb dF_flowAt_30 rfl (lv_at hl 0 rfl) ?_
          refine g_get hx hb hts inF hown hK hG 12 (by decide) hsF12 rfl 0 (by decide) lkF_9 rfl dF_flowAt_31 ?_
          refine lv_iload_n hx hb dF_flowAt_34 rfl (lv_at hl 3 rfl) ?_
          refine g_iald hx hb hK hG 13 (by decide) hsF13 (j := i) (by omega) (by decide) dF_flowAt_35 ?_
          refine lv_icmp_ge (tgt := 49) hx hb dF_flowAt_36 (by decide) (fun c3 => ?_) (fun c3 => ?_)
          · refine lv_aload_n hx hb dF_flowAt_49 rfl (lv_at hl 0 rfl) ?_
            refine g_get hx hb hts inF hown hK hG 12 (by decide) hsF12 rfl 1 (by decide) lkF_15 rfl dF_flowAt_50 ?_
            refine lv_iload_n hx hb dF_flowAt_53 rfl (lv_at hl 3 rfl) ?_
            refine g_iald hx hb hK hG 14 (by decide) hsF14 (j := i) (by omega) (by decide) dF_flowAt_54 ?_
            refine lv_istore_n (lv' := [(2, .int (ff i)), (0, .ref (a 12)), (1, .int q), (3, .int (nI i))]) hx hb dF_flowAt_55 rfl hl (by decide) rfl (fun ls hl => ?_)
            refine lv_iinc (v := (nI (i + 1))) (lv' := [(3, .int (nI (i + 1))), (2, .int (ff i)), (0, .ref (a 12)), (1, .int q)]) hx hb dF_flowAt_56 hl (k := 3) rfl (nI_add i 1) (by decide) rfl (fun ls hl => ?_)
            refine lv_goto (tgt := 21) hx hb dF_flowAt_59 (by decide) ?_
            exact ih21 k8 (by omega) (i + 1) (ff i) (by omega) (by omega) ((flF_y (fo := fo) (ff := ff) (o := q) (k := k8) (i := i) (r := r) (by assumption)).symm.trans hres) _ _ _ hG hS (lv_sub hl [2, 3, 1, 0] rfl)
          · refine lv_aload_n hx hb dF_flowAt_39 rfl (lv_at hl 0 rfl) ?_
            refine lv_iload_n hx hb dF_flowAt_40 rfl (lv_at hl 3 rfl) ?_
            refine lv_iconst (v := 1) hx hb dF_flowAt_41 (by decide) ?_
            refine ln_isub (x := i) (y := 1) hx hb dF_flowAt_42 (by omega) ?_
            refine lv_iload_n hx hb dF_flowAt_43 rfl (lv_at hl 3 rfl) ?_
            refine lv_iload_n hx hb dF_flowAt_44 rfl (lv_at hl 1 rfl) ?_
            refine g_ViR (i := 12) (As := [.int (nI (i - 1)), .int (nI i), .int q]) (rest := []) (kF_flowBetween hA ⟨hsF12, hsF13, hsF14⟩ (i - 1) i q (by omega) (by omega)) calF_flowBetween cvF_flowBetween mlF_22 hx hb hml hown hts hB hG hK hS (by decide) hsF12 rfl ⟨by decide, by decide⟩ rfl hl.1 rfl (Nat.le_of_ble_eq_true rfl) dF_flowAt_45 ⟨by decide, by decide⟩ (fun H locs hG hS => ?_)
            exact g_iret hQ hx hb hr hlk hG hK hS (by decide) (by decide) ⟨by exact (flF_n (fo := fo) (ff := ff) (o := q) (k := k8) (i := i) (r := r) (by assumption)).symm.trans hres, rfl⟩ dF_flowAt_48
    exact loop21 (nf - 1) 1 (ff 0) (by omega) (by omega) ((if_pos (by assumption)).symm) _ _ _ hG hS (lv_sub hl [2, 3, 1, 0] rfl)
  · refine lv_iload_n hx hb dF_flowAt_17 rfl (lv_at hl 0 rfl) ?_
    exact g_iret hQ hx hb hr hlk hG hK hS (by decide) (by decide) ⟨by exact (if_neg (by assumption)).symm, rfl⟩ dF_flowAt_18

abbrev rmF_leastOpeningFor : Room := { frames := 2, cells := 0, slots := 0, locals := 49 }
set_option maxRecDepth 100000 in
set_option maxHeartbeats 4000000 in
theorem kF_leastOpeningFor {l : Launch} {D : va_G} {k : ClassId × ClassId × ClassId} {a : Nat → Nat} {B0 : Nat} {w : Nat → va_E} (hA : gA B0 a) {nf : Nat} {fo : Nat → Int32} {ff : Nat → Int32} (hsF : sF k a w nf fo ff) (q : Int32) (hn : nf ≤ 8) (h0 : 0 < nf) : Met l yF_leastOpeningFor (tbw yF_leastOpeningFor cF_leastOpeningFor 6 (some .int)) rmF_leastOpeningFor (gPc D k a B0 w [.ref (a 12), .int q]) (va_Qi (roP (nI (gaF (flAt fo ff nf) q 100 0 10000)) w) (gB D k a) (gF B0)) 0 0 (gF B0) := by
  obtain ⟨hsF12, hsF13, hsF14⟩ := hsF
  refine g_ofW (by decide) rfl (fun p e s m args below meth c Q hQ hx hb hr hlk hml hown hts hB hG hK hS ls hl => ?_)
  have hl : lv_has ls 6 [(0, .ref (a 12)), (1, .int q)] := hl
  have hown : s.vm.findClass RF = some m.cls := hown
  refine lv_iconst (v := 0) hx hb dF_leastOpeningFor_0 (by decide) ?_
  refine lv_istore_n (lv' := [(2, .int 0), (0, .ref (a 12)), (1, .int q)]) hx hb dF_leastOpeningFor_1 rfl hl (by decide) rfl (fun ls hl => ?_)
  refine lv_sipush (v := 10000) hx hb dF_leastOpeningFor_2 (by decide) ?_
  refine lv_istore_n (lv' := [(3, .int 10000), (2, .int 0), (0, .ref (a 12)), (1, .int q)]) hx hb dF_leastOpeningFor_5 rfl hl (by decide) rfl (fun ls hl => ?_)
  refine lv_iconst (v := 0) hx hb dF_leastOpeningFor_6 (by decide) ?_
  refine lv_istore (lv' := [(4, .int 0), (3, .int 10000), (2, .int 0), (0, .ref (a 12)), (1, .int q)]) hx hb dF_leastOpeningFor_7 hl (by decide) rfl (fun ls hl => ?_)
  have loop9 : ∀ (k9 : Nat) (i : Nat) (x : Nat) (y : Nat) (hi : i + k9 = 100) (hx9 : x ≤ 10000) (hy9 : y ≤ 10000) (hres : gaF (flAt fo ff nf) q k9 x y = gaF (flAt fo ff nf) q 100 0 10000) (H : Heap) (locs : List Loc) (ls : Array Slot), gW D a w H → va_S (gF B0) s.heap H locs → lv_has ls 6 [(0, .ref (a 12)), (1, .int q), (2, .int (nI x)), (3, .int (nI y)), (4, .int (nI i))] → W p l e rmF_leastOpeningFor s m args below meth c H locs 0 0 Q (F0 m 9 ls []) := by
    intro k9
    induction k9 using Nat.strongRecOn with
    | _ k9 ih9 =>
      intro i x y hi hx9 hy9 hres H locs ls hG hS hl
      refine lv_iload hx hb dF_leastOpeningFor_9 (lv_at hl 4 rfl) ?_
      refine lv_bipush (v := 100) hx hb dF_leastOpeningFor_11 (by decide) ?_
      refine ln_icmp_ge (x := i) (y := 100) (tgt := 55) hx hb dF_leastOpeningFor_13 (by decide) (by omega) (by decide) (fun c1 => ?_) (fun c1 => ?_)
      · obtain rfl : k9 = 0 := by omega
        refine lv_iload_n hx hb dF_leastOpeningFor_55 rfl (lv_at hl 2 rfl) ?_
        exact g_iret hQ hx hb hr hlk hG hK hS (by decide) (by decide) ⟨by rw [← hres]; first | rfl | rw [gaF_e (by assumption)], rfl⟩ dF_leastOpeningFor_56
      · obtain ⟨k8, rfl⟩ : ∃ z, k9 = z + 1 := ⟨k9 - 1, by omega⟩
        refine lv_iload_n hx hb dF_leastOpeningFor_16 rfl (lv_at hl 2 rfl) ?_
        refine lv_iload_n hx hb dF_leastOpeningFor_17 rfl (lv_at hl 3 rfl) ?_
        refine ln_icmp_ge (x := x) (y := y) (tgt := 55) hx hb dF_leastOpeningFor_18 (by decide) (by omega) (by omega) (fun c2 => ?_) (fun c2 => ?_)
        · refine lv_iload_n hx hb dF_leastOpeningFor_55 rfl (lv_at hl 2 rfl) ?_
          exact g_iret hQ hx hb hr hlk hG hK hS (by decide) (by decide) ⟨by rw [← hres]; first | rfl | rw [gaF_e (by assumption)], rfl⟩ dF_leastOpeningFor_56
        · refine lv_iload_n hx hb dF_leastOpeningFor_21 rfl (lv_at hl 2 rfl) ?_
          refine lv_iload_n hx hb dF_leastOpeningFor_22 rfl (lv_at hl 3 rfl) ?_
          refine ln_iadd (x := x) (y := y) hx hb dF_leastOpeningFor_23 ?_
          refine lv_iconst (v := 2) hx hb dF_leastOpeningFor_24 (by decide) ?_
          refine ln_idiv (x := x + y) (y := 2) hx hb dF_leastOpeningFor_25 (by omega) (by decide) (by decide) ?_
          refine lv_istore (lv' := [(5, .int (nI ((x + y) / 2))), (0, .ref (a 12)), (1, .int q), (2, .int (nI x)), (3, .int (nI y)), (4, .int (nI i))]) hx hb dF_leastOpeningFor_26 hl (by decide) rfl (fun ls hl => ?_)
          refine lv_aload_n hx hb dF_leastOpeningFor_28 rfl (lv_at hl 1 rfl) ?_
          refine lv_iload hx hb dF_leastOpeningFor_29 (lv_at hl 0 rfl) ?_
          refine g_ViR (i := 12) (As := [.int (nI ((x + y) / 2))]) (rest := []) (kF_flowAt hA ⟨hsF12, hsF13, hsF14⟩ (nI ((x + y) / 2)) (by omega) (by omega)) calF_flowAt cvF_flowAt mlF_26 hx hb hml hown hts hB hG hK hS (by decide) hsF12 rfl ⟨by decide, by decide⟩ rfl hl.1 rfl (Nat.le_of_ble_eq_true rfl) dF_leastOpeningFor_31 ⟨by decide, by decide⟩ (fun H locs hG hS => ?_)
          refine lv_iload_n hx hb dF_leastOpeningFor_34 rfl (lv_at hl 2 rfl) ?_
          refine lv_icmp_lt (tgt := 44) hx hb dF_leastOpeningFor_35 (by decide) (fun c3 => ?_) (fun c3 => ?_)
          · refine lv_iload hx hb dF_leastOpeningFor_44 (lv_at hl 0 rfl) ?_
            refine lv_iconst (v := 1) hx hb dF_leastOpeningFor_46 (by decide) ?_
            refine ln_iadd (x := (x + y) / 2) (y := 1) hx hb dF_leastOpeningFor_47 ?_
            refine lv_istore_n (lv' := [(2, .int (nI (((x + y) / 2) + 1))), (5, .int (nI ((x + y) / 2))), (0, .ref (a 12)), (1, .int q), (3, .int (nI y)), (4, .int (nI i))]) hx hb dF_leastOpeningFor_48 rfl hl (by decide) rfl (fun ls hl => ?_)
            refine lv_iinc (v := (nI (i + 1))) (lv' := [(4, .int (nI (i + 1))), (2, .int (nI (((x + y) / 2) + 1))), (5, .int (nI ((x + y) / 2))), (0, .ref (a 12)), (1, .int q), (3, .int (nI y))]) hx hb dF_leastOpeningFor_49 hl (k := 5) rfl (nI_add i 1) (by decide) rfl (fun ls hl => ?_)
            refine lv_goto (tgt := 9) hx hb dF_leastOpeningFor_52 (by decide) ?_
            exact ih9 k8 (by omega) (i + 1) (((x + y) / 2) + 1) y (by omega) (by omega) (by omega) (by first | exact (gaF_l (fl := flAt fo ff nf) (aim := q) (k := k8) (lo := x) (hi := y) (by omega) (by assumption)).symm.trans hres | exact (gaF_h (fl := flAt fo ff nf) (aim := q) (k := k8) (lo := x) (hi := y) (by omega) (by assumption)).symm.trans hres) _ _ _ hG hS (lv_sub hl [3, 4, 1, 5, 0] rfl)
          · refine lv_iload hx hb dF_leastOpeningFor_38 (lv_at hl 0 rfl) ?_
            refine lv_istore_n (lv' := [(3, .int (nI ((x + y) / 2))), (5, .int (nI ((x + y) / 2))), (0, .ref (a 12)), (1, .int q), (2, .int (nI x)), (4, .int (nI i))]) hx hb dF_leastOpeningFor_40 rfl hl (by decide) rfl (fun ls hl => ?_)
            refine lv_goto (tgt := 49) hx hb dF_leastOpeningFor_41 (by decide) ?_
            refine lv_iinc (v := (nI (i + 1))) (lv' := [(4, .int (nI (i + 1))), (3, .int (nI ((x + y) / 2))), (5, .int (nI ((x + y) / 2))), (0, .ref (a 12)), (1, .int q), (2, .int (nI x))]) hx hb dF_leastOpeningFor_49 hl (k := 5) rfl (nI_add i 1) (by decide) rfl (fun ls hl => ?_)
            refine lv_goto (tgt := 9) hx hb dF_leastOpeningFor_52 (by decide) ?_
            exact ih9 k8 (by omega) (i + 1) x ((x + y) / 2) (by omega) (by omega) (by omega) (by first | exact (gaF_l (fl := flAt fo ff nf) (aim := q) (k := k8) (lo := x) (hi := y) (by omega) (by assumption)).symm.trans hres | exact (gaF_h (fl := flAt fo ff nf) (aim := q) (k := k8) (lo := x) (hi := y) (by omega) (by assumption)).symm.trans hres) _ _ _ hG hS (lv_sub hl [3, 4, 5, 1, 0] rfl)
  exact loop9 100 0 0 10000 (by omega) (by omega) (by omega) rfl _ _ _ hG hS (lv_sub hl [3, 4, 2, 1, 0] rfl)

abbrev rmM_clearTo : Room := { frames := 0, cells := 0, slots := 0, locals := 0 }
set_option maxRecDepth 100000 in
set_option maxHeartbeats 4000000 in
theorem kM_clearTo {l : Launch} {D : va_G} {k : ClassId × ClassId × ClassId} {a : Nat → Nat} {B0 : Nat} {w : Nat → va_E} (hA : gA B0 a) {bw : Int32} {bd : Int32} {bu : Int32} {nt : Nat} {ns : Nat} {tw : Nat → Int32} {td : Nat → Int32} {sb : Nat → Int32} {sd : Nat → Int32} {su : Nat → Int32} (hsM : sM k a w bw bd bu nt ns tw td sb sd su) (x : Int32) (y : Int32) : Met l yM_clearTo (tbw yM_clearTo cM_clearTo 3 none) rmM_clearTo (gPc D k a B0 w [.ref (a 15), .int x, .int y]) (va_Qv (fun w1 => (sM k a w1 x y 0 0 0 tw td sb sd su) ∧ ∀ z, z < 15 ∨ 20 < z → w1 z = w z) (gB D k a) (gF B0)) 0 0 (gF B0) := by
  obtain ⟨hsM15, hsM16, hsM17, hsM18, hsM19, hsM20⟩ := hsM
  refine g_ofW (by decide) rfl (fun p e s m args below meth c Q hQ hx hb hr hlk hml hown hts hB hG hK hS ls hl => ?_)
  have hl : lv_has ls 3 [(0, .ref (a 15)), (1, .int x), (2, .int y)] := hl
  have hown : s.vm.findClass RM = some m.cls := hown
  have hfr0 : ∀ z, z < 15 ∨ 20 < z → w z = w z := fun _ _ => rfl
  refine lv_aload_n hx hb dM_clearTo_0 rfl (lv_at hl 0 rfl) ?_
  refine lv_iload_n hx hb dM_clearTo_1 rfl (lv_at hl 1 rfl) ?_
  refine g_put hx hb hts inM tyM tokM nokM hown hK hA hG hS 15 (by decide) hsM15 rfl 5 (by decide) lkM_27 rfl (ty := .int) (by decide +kernel) rfl rfl (Nat.le_of_ble_eq_true rfl) dM_clearTo_2 (fun H locs hG hS => ?_)
  obtain ⟨w1, hw2⟩ : ∃ zz9, zz9 = va_up w 15 (.inr (4, [.ref (a 16), .ref (a 17), .ref (a 18), .ref (a 19), .ref (a 20), .int x, .int bd, .int bu, .int (nI nt), .int (nI ns)])) := ⟨_, rfl⟩
  replace hG : gW D a w1 H := by rw [hw2]; exact hG
  have h3 : w1 15 = .inr (4, [.ref (a 16), .ref (a 17), .ref (a 18), .ref (a 19), .ref (a 20), .int x, .int bd, .int bu, .int (nI nt), .int (nI ns)]) := by rw [hw2]; rfl
  have h4 : w1 16 = .inl (k.1, 40, .inl tw) := by rw [hw2]; exact hsM16
  have h5 : w1 17 = .inl (k.1, 40, .inl td) := by rw [hw2]; exact hsM17
  have h6 : w1 18 = .inl (k.1, 40, .inl sb) := by rw [hw2]; exact hsM18
  have h7 : w1 19 = .inl (k.1, 40, .inl sd) := by rw [hw2]; exact hsM19
  have h8 : w1 20 = .inl (k.1, 40, .inl su) := by rw [hw2]; exact hsM20
  have hfr9 : ∀ z, z < 15 ∨ 20 < z → w1 z = w z := fun z hz => by rw [hw2]; exact (va_up_ne _ _ (by omega)).trans (hfr0 z hz)
  refine lv_aload_n hx hb dM_clearTo_5 rfl (lv_at hl 0 rfl) ?_
  refine lv_iload_n hx hb dM_clearTo_6 rfl (lv_at hl 2 rfl) ?_
  refine g_put hx hb hts inM tyM tokM nokM hown hK hA hG hS 15 (by decide) h3 rfl 6 (by decide) lkM_31 rfl (ty := .int) (by decide +kernel) rfl rfl (Nat.le_of_ble_eq_true rfl) dM_clearTo_7 (fun H locs hG hS => ?_)
  obtain ⟨w10, hw11⟩ : ∃ zz9, zz9 = va_up w1 15 (.inr (4, [.ref (a 16), .ref (a 17), .ref (a 18), .ref (a 19), .ref (a 20), .int x, .int y, .int bu, .int (nI nt), .int (nI ns)])) := ⟨_, rfl⟩
  replace hG : gW D a w10 H := by rw [hw11]; exact hG
  have h12 : w10 15 = .inr (4, [.ref (a 16), .ref (a 17), .ref (a 18), .ref (a 19), .ref (a 20), .int x, .int y, .int bu, .int (nI nt), .int (nI ns)]) := by rw [hw11]; rfl
  have h13 : w10 16 = .inl (k.1, 40, .inl tw) := by rw [hw11]; exact h4
  have h14 : w10 17 = .inl (k.1, 40, .inl td) := by rw [hw11]; exact h5
  have h15 : w10 18 = .inl (k.1, 40, .inl sb) := by rw [hw11]; exact h6
  have h16 : w10 19 = .inl (k.1, 40, .inl sd) := by rw [hw11]; exact h7
  have h17 : w10 20 = .inl (k.1, 40, .inl su) := by rw [hw11]; exact h8
  have hfr18 : ∀ z, z < 15 ∨ 20 < z → w10 z = w z := fun z hz => by rw [hw11]; exact (va_up_ne _ _ (by omega)).trans (hfr9 z hz)
  refine lv_aload_n hx hb dM_clearTo_10 rfl (lv_at hl 0 rfl) ?_
  refine lv_iconst (v := 0) hx hb dM_clearTo_11 (by decide) ?_
  refine g_put hx hb hts inM tyM tokM nokM hown hK hA hG hS 15 (by decide) h12 rfl 7 (by decide) lkM_34 rfl (ty := .int) (by decide +kernel) rfl rfl (Nat.le_of_ble_eq_true rfl) dM_clearTo_12 (fun H locs hG hS => ?_)
  obtain ⟨w19, hw20⟩ : ∃ zz9, zz9 = va_up w10 15 (.inr (4, [.ref (a 16), .ref (a 17), .ref (a 18), .ref (a 19), .ref (a 20), .int x, .int y, .int 0, .int (nI nt), .int (nI ns)])) := ⟨_, rfl⟩
  replace hG : gW D a w19 H := by rw [hw20]; exact hG
  have h21 : w19 15 = .inr (4, [.ref (a 16), .ref (a 17), .ref (a 18), .ref (a 19), .ref (a 20), .int x, .int y, .int 0, .int (nI nt), .int (nI ns)]) := by rw [hw20]; rfl
  have h22 : w19 16 = .inl (k.1, 40, .inl tw) := by rw [hw20]; exact h13
  have h23 : w19 17 = .inl (k.1, 40, .inl td) := by rw [hw20]; exact h14
  have h24 : w19 18 = .inl (k.1, 40, .inl sb) := by rw [hw20]; exact h15
  have h25 : w19 19 = .inl (k.1, 40, .inl sd) := by rw [hw20]; exact h16
  have h26 : w19 20 = .inl (k.1, 40, .inl su) := by rw [hw20]; exact h17
  have hfr27 : ∀ z, z < 15 ∨ 20 < z → w19 z = w z := fun z hz => by rw [hw20]; exact (va_up_ne _ _ (by omega)).trans (hfr18 z hz)
  refine lv_aload_n hx hb dM_clearTo_15 rfl (lv_at hl 0 rfl) ?_
  refine lv_iconst (v := 0) hx hb dM_clearTo_16 (by decide) ?_
  refine g_put hx hb hts inM tyM tokM nokM hown hK hA hG hS 15 (by decide) h21 rfl 8 (by decide) lkM_37 rfl (ty := .int) (by decide +kernel) rfl rfl (Nat.le_of_ble_eq_true rfl) dM_clearTo_17 (fun H locs hG hS => ?_)
  obtain ⟨w28, hw29⟩ : ∃ zz9, zz9 = va_up w19 15 (.inr (4, [.ref (a 16), .ref (a 17), .ref (a 18), .ref (a 19), .ref (a 20), .int x, .int y, .int 0, .int 0, .int (nI ns)])) := ⟨_, rfl⟩
  replace hG : gW D a w28 H := by rw [hw29]; exact hG
  have h30 : w28 15 = .inr (4, [.ref (a 16), .ref (a 17), .ref (a 18), .ref (a 19), .ref (a 20), .int x, .int y, .int 0, .int 0, .int (nI ns)]) := by rw [hw29]; rfl
  have h31 : w28 16 = .inl (k.1, 40, .inl tw) := by rw [hw29]; exact h22
  have h32 : w28 17 = .inl (k.1, 40, .inl td) := by rw [hw29]; exact h23
  have h33 : w28 18 = .inl (k.1, 40, .inl sb) := by rw [hw29]; exact h24
  have h34 : w28 19 = .inl (k.1, 40, .inl sd) := by rw [hw29]; exact h25
  have h35 : w28 20 = .inl (k.1, 40, .inl su) := by rw [hw29]; exact h26
  have hfr36 : ∀ z, z < 15 ∨ 20 < z → w28 z = w z := fun z hz => by rw [hw29]; exact (va_up_ne _ _ (by omega)).trans (hfr27 z hz)
  refine lv_aload_n hx hb dM_clearTo_20 rfl (lv_at hl 0 rfl) ?_
  refine lv_iconst (v := 0) hx hb dM_clearTo_21 (by decide) ?_
  refine g_put hx hb hts inM tyM tokM nokM hown hK hA hG hS 15 (by decide) h30 rfl 9 (by decide) lkM_40 rfl (ty := .int) (by decide +kernel) rfl rfl (Nat.le_of_ble_eq_true rfl) dM_clearTo_22 (fun H locs hG hS => ?_)
  obtain ⟨w37, hw38⟩ : ∃ zz9, zz9 = va_up w28 15 (.inr (4, [.ref (a 16), .ref (a 17), .ref (a 18), .ref (a 19), .ref (a 20), .int x, .int y, .int 0, .int 0, .int 0])) := ⟨_, rfl⟩
  replace hG : gW D a w37 H := by rw [hw38]; exact hG
  have h39 : w37 15 = .inr (4, [.ref (a 16), .ref (a 17), .ref (a 18), .ref (a 19), .ref (a 20), .int x, .int y, .int 0, .int 0, .int 0]) := by rw [hw38]; rfl
  have h40 : w37 16 = .inl (k.1, 40, .inl tw) := by rw [hw38]; exact h31
  have h41 : w37 17 = .inl (k.1, 40, .inl td) := by rw [hw38]; exact h32
  have h42 : w37 18 = .inl (k.1, 40, .inl sb) := by rw [hw38]; exact h33
  have h43 : w37 19 = .inl (k.1, 40, .inl sd) := by rw [hw38]; exact h34
  have h44 : w37 20 = .inl (k.1, 40, .inl su) := by rw [hw38]; exact h35
  have hfr45 : ∀ z, z < 15 ∨ 20 < z → w37 z = w z := fun z hz => by rw [hw38]; exact (va_up_ne _ _ (by omega)).trans (hfr36 z hz)
  exact g_vret hQ hx hb hr hlk hG hK hS (by decide) (by decide) ⟨⟨h39, h40, h41, h42, h43, h44⟩, hfr45⟩ dM_clearTo_25

abbrev rmM_isFull : Room := { frames := 0, cells := 0, slots := 0, locals := 0 }
set_option maxRecDepth 100000 in
set_option maxHeartbeats 4000000 in
theorem kM_isFull {l : Launch} {D : va_G} {k : ClassId × ClassId × ClassId} {a : Nat → Nat} {B0 : Nat} {w : Nat → va_E} (hA : gA B0 a) {bw : Int32} {bd : Int32} {bu : Int32} {nt : Nat} {ns : Nat} {tw : Nat → Int32} {td : Nat → Int32} {sb : Nat → Int32} {sd : Nat → Int32} {su : Nat → Int32} (hsM : sM k a w bw bd bu nt ns tw td sb sd su) (hn : nt ≤ 40) : Met l yM_isFull (tbw yM_isFull cM_isFull 1 (some .boolean)) rmM_isFull (gPc D k a B0 w [.ref (a 15)]) (va_Qi (roP (b2i (40 ≤ nt)) w) (gB D k a) (gF B0)) 0 0 (gF B0) := by
  obtain ⟨hsM15, hsM16, hsM17, hsM18, hsM19, hsM20⟩ := hsM
  refine g_ofW (by decide) rfl (fun p e s m args below meth c Q hQ hx hb hr hlk hml hown hts hB hG hK hS ls hl => ?_)
  have hl : lv_has ls 1 [(0, .ref (a 15))] := hl
  have hown : s.vm.findClass RM = some m.cls := hown
  refine lv_aload_n hx hb dM_isFull_0 rfl (lv_at hl 0 rfl) ?_
  refine g_get hx hb hts inM hown hK hG 15 (by decide) hsM15 rfl 8 (by decide) lkM_37 rfl dM_isFull_1 ?_
  refine lv_bipush (v := 40) hx hb dM_isFull_4 (by decide) ?_
  refine ln_icmp_lt (x := nt) (y := 40) (tgt := 13) hx hb dM_isFull_6 (by decide) (by omega) (by decide) (fun c1 => ?_) (fun c1 => ?_)
  · refine lv_iconst (v := 0) hx hb dM_isFull_13 (by decide) ?_
    exact g_zret hQ hx hb hr hlk hG hK hS (by decide) (by decide) (by decide) ⟨(b2i_f (by first | rfl | omega | (simp_all; done) | grind)).symm, rfl⟩ dM_isFull_14
  · refine lv_iconst (v := 1) hx hb dM_isFull_9 (by decide) ?_
    refine lv_goto (tgt := 14) hx hb dM_isFull_10 (by decide) ?_
    exact g_zret hQ hx hb hr hlk hG hK hS (by decide) (by decide) (by decide) ⟨(b2i_t (by first | rfl | omega | (simp_all; done) | grind)).symm, rfl⟩ dM_isFull_14

abbrev rmM_hasThing : Room := { frames := 0, cells := 0, slots := 0, locals := 0 }
set_option maxRecDepth 100000 in
set_option maxHeartbeats 4000000 in
theorem kM_hasThing {l : Launch} {D : va_G} {k : ClassId × ClassId × ClassId} {a : Nat → Nat} {B0 : Nat} {w : Nat → va_E} (hA : gA B0 a) {bw : Int32} {bd : Int32} {bu : Int32} {nt : Nat} {ns : Nat} {tw : Nat → Int32} {td : Nat → Int32} {sb : Nat → Int32} {sd : Nat → Int32} {su : Nat → Int32} (hsM : sM k a w bw bd bu nt ns tw td sb sd su) (q : Int32) : Met l yM_hasThing (tbw yM_hasThing cM_hasThing 2 (some .boolean)) rmM_hasThing (gPc D k a B0 w [.ref (a 15), .int q]) (va_Qi (roP (b2i (¬ q < 0 ∧ ¬ nI nt ≤ q)) w) (gB D k a) (gF B0)) 0 0 (gF B0) := by
  obtain ⟨hsM15, hsM16, hsM17, hsM18, hsM19, hsM20⟩ := hsM
  refine g_ofW (by decide) rfl (fun p e s m args below meth c Q hQ hx hb hr hlk hml hown hts hB hG hK hS ls hl => ?_)
  have hl : lv_has ls 2 [(0, .ref (a 15)), (1, .int q)] := hl
  have hown : s.vm.findClass RM = some m.cls := hown
  refine lv_iload_n hx hb dM_hasThing_0 rfl (lv_at hl 1 rfl) ?_
  refine lv_if_lt (tgt := 16) hx hb dM_hasThing_1 (by decide) (fun c1 => ?_) (fun c1 => ?_)
  · refine lv_iconst (v := 0) hx hb dM_hasThing_16 (by decide) ?_
    exact g_zret hQ hx hb hr hlk hG hK hS (by decide) (by decide) (by decide) ⟨(b2i_f (by simp_all)).symm, rfl⟩ dM_hasThing_17
  · refine lv_iload_n hx hb dM_hasThing_4 rfl (lv_at hl 1 rfl) ?_
    refine lv_aload_n hx hb dM_hasThing_5 rfl (lv_at hl 0 rfl) ?_
    refine g_get hx hb hts inM hown hK hG 15 (by decide) hsM15 rfl 8 (by decide) lkM_37 rfl dM_hasThing_6 ?_
    refine lv_icmp_ge (tgt := 16) hx hb dM_hasThing_9 (by decide) (fun c2 => ?_) (fun c2 => ?_)
    · refine lv_iconst (v := 0) hx hb dM_hasThing_16 (by decide) ?_
      exact g_zret hQ hx hb hr hlk hG hK hS (by decide) (by decide) (by decide) ⟨(b2i_f (by simp_all)).symm, rfl⟩ dM_hasThing_17
    · refine lv_iconst (v := 1) hx hb dM_hasThing_12 (by decide) ?_
      refine lv_goto (tgt := 17) hx hb dM_hasThing_13 (by decide) ?_
      exact g_zret hQ hx hb hr hlk hG hK hS (by decide) (by decide) (by decide) ⟨(b2i_t (by simp_all)).symm, rfl⟩ dM_hasThing_17

abbrev rmM_alongWidth : Room := { frames := 0, cells := 0, slots := 0, locals := 0 }
set_option maxRecDepth 100000 in
set_option maxHeartbeats 4000000 in
theorem kM_alongWidth {l : Launch} {D : va_G} {k : ClassId × ClassId × ClassId} {a : Nat → Nat} {B0 : Nat} {w : Nat → va_E} (hA : gA B0 a) {bw : Int32} {bd : Int32} {bu : Int32} {nt : Nat} {ns : Nat} {tw : Nat → Int32} {td : Nat → Int32} {sb : Nat → Int32} {sd : Nat → Int32} {su : Nat → Int32} (hsM : sM k a w bw bd bu nt ns tw td sb sd su) (j : Nat) (hj : j < 40) : Met l yM_alongWidth (tbw yM_alongWidth cM_alongWidth 2 (some .int)) rmM_alongWidth (gPc D k a B0 w [.ref (a 15), .int (nI j)]) (va_Qi (roP (tw j) w) (gB D k a) (gF B0)) 0 0 (gF B0) := by
  obtain ⟨hsM15, hsM16, hsM17, hsM18, hsM19, hsM20⟩ := hsM
  refine g_ofW (by decide) rfl (fun p e s m args below meth c Q hQ hx hb hr hlk hml hown hts hB hG hK hS ls hl => ?_)
  have hl : lv_has ls 2 [(0, .ref (a 15)), (1, .int (nI j))] := hl
  have hown : s.vm.findClass RM = some m.cls := hown
  refine lv_aload_n hx hb dM_alongWidth_0 rfl (lv_at hl 0 rfl) ?_
  refine g_get hx hb hts inM hown hK hG 15 (by decide) hsM15 rfl 0 (by decide) lkM_9 rfl dM_alongWidth_1 ?_
  refine lv_iload_n hx hb dM_alongWidth_4 rfl (lv_at hl 1 rfl) ?_
  refine g_iald hx hb hK hG 16 (by decide) hsM16 (j := j) (by omega) (by decide) dM_alongWidth_5 ?_
  exact g_iret hQ hx hb hr hlk hG hK hS (by decide) (by decide) ⟨by first | rfl | omega | (simp_all; done) | grind, rfl⟩ dM_alongWidth_6

abbrev rmM_alongDepth : Room := { frames := 0, cells := 0, slots := 0, locals := 0 }
set_option maxRecDepth 100000 in
set_option maxHeartbeats 4000000 in
theorem kM_alongDepth {l : Launch} {D : va_G} {k : ClassId × ClassId × ClassId} {a : Nat → Nat} {B0 : Nat} {w : Nat → va_E} (hA : gA B0 a) {bw : Int32} {bd : Int32} {bu : Int32} {nt : Nat} {ns : Nat} {tw : Nat → Int32} {td : Nat → Int32} {sb : Nat → Int32} {sd : Nat → Int32} {su : Nat → Int32} (hsM : sM k a w bw bd bu nt ns tw td sb sd su) (j : Nat) (hj : j < 40) : Met l yM_alongDepth (tbw yM_alongDepth cM_alongDepth 2 (some .int)) rmM_alongDepth (gPc D k a B0 w [.ref (a 15), .int (nI j)]) (va_Qi (roP (td j) w) (gB D k a) (gF B0)) 0 0 (gF B0) := by
  obtain ⟨hsM15, hsM16, hsM17, hsM18, hsM19, hsM20⟩ := hsM
  refine g_ofW (by decide) rfl (fun p e s m args below meth c Q hQ hx hb hr hlk hml hown hts hB hG hK hS ls hl => ?_)
  have hl : lv_has ls 2 [(0, .ref (a 15)), (1, .int (nI j))] := hl
  have hown : s.vm.findClass RM = some m.cls := hown
  refine lv_aload_n hx hb dM_alongDepth_0 rfl (lv_at hl 0 rfl) ?_
  refine g_get hx hb hts inM hown hK hG 15 (by decide) hsM15 rfl 1 (by decide) lkM_15 rfl dM_alongDepth_1 ?_
  refine lv_iload_n hx hb dM_alongDepth_4 rfl (lv_at hl 1 rfl) ?_
  refine g_iald hx hb hK hG 17 (by decide) hsM17 (j := j) (by omega) (by decide) dM_alongDepth_5 ?_
  exact g_iret hQ hx hb hr hlk hG hK hS (by decide) (by decide) ⟨by first | rfl | omega | (simp_all; done) | grind, rfl⟩ dM_alongDepth_6

abbrev rmM_shelfFor : Room := { frames := 0, cells := 0, slots := 0, locals := 0 }
set_option maxRecDepth 100000 in
set_option maxHeartbeats 4000000 in
theorem kM_shelfFor {l : Launch} {D : va_G} {k : ClassId × ClassId × ClassId} {a : Nat → Nat} {B0 : Nat} {w : Nat → va_E} (hA : gA B0 a) {bw : Int32} {bd : Int32} {bu : Int32} {nt : Nat} {ns : Nat} {tw : Nat → Int32} {td : Nat → Int32} {sb : Nat → Int32} {sd : Nat → Int32} {su : Nat → Int32} (hsM : sM k a w bw bd bu nt ns tw td sb sd su) (x : Int32) (y : Int32) (hn : ns ≤ 40) : Met l yM_shelfFor (tbw yM_shelfFor cM_shelfFor 4 (some .int)) rmM_shelfFor (gPc D k a B0 w [.ref (a 15), .int x, .int y]) (va_Qi (roP (shF bw bd bu ns sd su x y ns 0) w) (gB D k a) (gF B0)) 0 0 (gF B0) := by
  obtain ⟨hsM15, hsM16, hsM17, hsM18, hsM19, hsM20⟩ := hsM
  refine g_ofW (by decide) rfl (fun p e s m args below meth c Q hQ hx hb hr hlk hml hown hts hB hG hK hS ls hl => ?_)
  have hl : lv_has ls 4 [(0, .ref (a 15)), (1, .int x), (2, .int y)] := hl
  have hown : s.vm.findClass RM = some m.cls := hown
  refine lv_iconst (v := 0) hx hb dM_shelfFor_0 (by decide) ?_
  refine lv_istore_n (lv' := [(3, .int 0), (0, .ref (a 15)), (1, .int x), (2, .int y)]) hx hb dM_shelfFor_1 rfl hl (by decide) rfl (fun ls hl => ?_)
  have loop2 : ∀ (k9 : Nat) (i : Nat) (hi : i + k9 = ns) (hres : shF bw bd bu ns sd su x y k9 i = shF bw bd bu ns sd su x y ns 0) (H : Heap) (locs : List Loc) (ls : Array Slot), gW D a w H → va_S (gF B0) s.heap H locs → lv_has ls 4 [(0, .ref (a 15)), (1, .int x), (2, .int y), (3, .int (nI i))] → W p l e rmM_shelfFor s m args below meth c H locs 0 0 Q (F0 m 2 ls []) := by
    intro k9
    induction k9 using Nat.strongRecOn with
    | _ k9 ih2 =>
      intro i hi hres H locs ls hG hS hl
      refine lv_iload_n hx hb dM_shelfFor_2 rfl (lv_at hl 3 rfl) ?_
      refine lv_aload_n hx hb dM_shelfFor_3 rfl (lv_at hl 0 rfl) ?_
      refine g_get hx hb hts inM hown hK hG 15 (by decide) hsM15 rfl 9 (by decide) lkM_40 rfl dM_shelfFor_4 ?_
      refine ln_icmp_ge (x := i) (y := ns) (tgt := 43) hx hb dM_shelfFor_7 (by decide) (by omega) (by omega) (fun c1 => ?_) (fun c1 => ?_)
      · obtain rfl : k9 = 0 := by omega
        refine lv_iload_n hx hb dM_shelfFor_43 rfl (lv_at hl 1 rfl) ?_
        refine lv_aload_n hx hb dM_shelfFor_44 rfl (lv_at hl 0 rfl) ?_
        refine g_get hx hb hts inM hown hK hG 15 (by decide) hsM15 rfl 5 (by decide) lkM_27 rfl dM_shelfFor_45 ?_
        refine lv_icmp_gt (tgt := 71) hx hb dM_shelfFor_48 (by decide) (fun c2 => ?_) (fun c2 => ?_)
        · refine lv_iconst (v := (-1)) hx hb dM_shelfFor_71 (by decide) ?_
          exact g_iret hQ hx hb hr hlk hG hK hS (by decide) (by decide) ⟨by exact (shF_1 (fun h9 => by first | exact absurd (by assumption) h9.1 | exact absurd (by assumption) h9.2)).symm.trans hres, rfl⟩ dM_shelfFor_72
        · refine lv_iload_n hx hb dM_shelfFor_51 rfl (lv_at hl 2 rfl) ?_
          refine lv_aload_n hx hb dM_shelfFor_52 rfl (lv_at hl 0 rfl) ?_
          refine g_get hx hb hts inM hown hK hG 15 (by decide) hsM15 rfl 6 (by decide) lkM_31 rfl dM_shelfFor_53 ?_
          refine lv_aload_n hx hb dM_shelfFor_56 rfl (lv_at hl 0 rfl) ?_
          refine g_get hx hb hts inM hown hK hG 15 (by decide) hsM15 rfl 7 (by decide) lkM_34 rfl dM_shelfFor_57 ?_
          refine lv_isub hx hb dM_shelfFor_60 ?_
          refine lv_icmp_gt (tgt := 71) hx hb dM_shelfFor_61 (by decide) (fun c3 => ?_) (fun c3 => ?_)
          · refine lv_iconst (v := (-1)) hx hb dM_shelfFor_71 (by decide) ?_
            exact g_iret hQ hx hb hr hlk hG hK hS (by decide) (by decide) ⟨by exact (shF_1 (fun h9 => by first | exact absurd (by assumption) h9.1 | exact absurd (by assumption) h9.2)).symm.trans hres, rfl⟩ dM_shelfFor_72
          · refine lv_aload_n hx hb dM_shelfFor_64 rfl (lv_at hl 0 rfl) ?_
            refine g_get hx hb hts inM hown hK hG 15 (by decide) hsM15 rfl 9 (by decide) lkM_40 rfl dM_shelfFor_65 ?_
            refine lv_goto (tgt := 72) hx hb dM_shelfFor_68 (by decide) ?_
            exact g_iret hQ hx hb hr hlk hG hK hS (by decide) (by decide) ⟨by exact (shF_0 ⟨by assumption, by assumption⟩).symm.trans hres, rfl⟩ dM_shelfFor_72
      · obtain ⟨k8, rfl⟩ : ∃ z, k9 = z + 1 := ⟨k9 - 1, by omega⟩
        refine lv_iload_n hx hb dM_shelfFor_10 rfl (lv_at hl 2 rfl) ?_
        refine lv_aload_n hx hb dM_shelfFor_11 rfl (lv_at hl 0 rfl) ?_
        refine g_get hx hb hts inM hown hK hG 15 (by decide) hsM15 rfl 3 (by decide) lkM_21 rfl dM_shelfFor_12 ?_
        refine lv_iload_n hx hb dM_shelfFor_15 rfl (lv_at hl 3 rfl) ?_
        refine g_iald hx hb hK hG 19 (by decide) hsM19 (j := i) (by omega) (by decide) dM_shelfFor_16 ?_
        refine lv_icmp_gt (tgt := 37) hx hb dM_shelfFor_17 (by decide) (fun c4 => ?_) (fun c4 => ?_)
        · refine lv_iinc (v := (nI (i + 1))) (lv' := [(3, .int (nI (i + 1))), (0, .ref (a 15)), (1, .int x), (2, .int y)]) hx hb dM_shelfFor_37 hl (k := 3) rfl (nI_add i 1) (by decide) rfl (fun ls hl => ?_)
          refine lv_goto (tgt := 2) hx hb dM_shelfFor_40 (by decide) ?_
          exact ih2 k8 (by omega) (i + 1) (by omega) ((shF_n (k := k8) (fun h9 => by first | exact absurd (by assumption) h9.1 | exact absurd (by assumption) h9.2)).symm.trans hres) _ _ _ hG hS (lv_sub hl [1, 2, 3, 0] rfl)
        · refine lv_iload_n hx hb dM_shelfFor_20 rfl (lv_at hl 1 rfl) ?_
          refine lv_aload_n hx hb dM_shelfFor_21 rfl (lv_at hl 0 rfl) ?_
          refine g_get hx hb hts inM hown hK hG 15 (by decide) hsM15 rfl 5 (by decide) lkM_27 rfl dM_shelfFor_22 ?_
          refine lv_aload_n hx hb dM_shelfFor_25 rfl (lv_at hl 0 rfl) ?_
          refine g_get hx hb hts inM hown hK hG 15 (by decide) hsM15 rfl 4 (by decide) lkM_24 rfl dM_shelfFor_26 ?_
          refine lv_iload_n hx hb dM_shelfFor_29 rfl (lv_at hl 3 rfl) ?_
          refine g_iald hx hb hK hG 20 (by decide) hsM20 (j := i) (by omega) (by decide) dM_shelfFor_30 ?_
          refine lv_isub hx hb dM_shelfFor_31 ?_
          refine lv_icmp_gt (tgt := 37) hx hb dM_shelfFor_32 (by decide) (fun c5 => ?_) (fun c5 => ?_)
          · refine lv_iinc (v := (nI (i + 1))) (lv' := [(3, .int (nI (i + 1))), (0, .ref (a 15)), (1, .int x), (2, .int y)]) hx hb dM_shelfFor_37 hl (k := 3) rfl (nI_add i 1) (by decide) rfl (fun ls hl => ?_)
            refine lv_goto (tgt := 2) hx hb dM_shelfFor_40 (by decide) ?_
            exact ih2 k8 (by omega) (i + 1) (by omega) ((shF_n (k := k8) (fun h9 => by first | exact absurd (by assumption) h9.1 | exact absurd (by assumption) h9.2)).symm.trans hres) _ _ _ hG hS (lv_sub hl [1, 2, 3, 0] rfl)
          · refine lv_iload_n hx hb dM_shelfFor_35 rfl (lv_at hl 3 rfl) ?_
            exact g_iret hQ hx hb hr hlk hG hK hS (by decide) (by decide) ⟨by exact (shF_y (k := k8) ⟨by assumption, by assumption⟩).symm.trans hres, rfl⟩ dM_shelfFor_36
  exact loop2 ns 0 (by omega) rfl _ _ _ hG hS (lv_sub hl [1, 2, 3, 0] rfl)

abbrev rmM_openShelf : Room := { frames := 0, cells := 0, slots := 0, locals := 0 }
set_option maxRecDepth 100000 in
set_option maxHeartbeats 4000000 in
theorem kM_openShelf {l : Launch} {D : va_G} {k : ClassId × ClassId × ClassId} {a : Nat → Nat} {B0 : Nat} {w : Nat → va_E} (hA : gA B0 a) {bw : Int32} {bd : Int32} {bu : Int32} {nt : Nat} {ns : Nat} {tw : Nat → Int32} {td : Nat → Int32} {sb : Nat → Int32} {sd : Nat → Int32} {su : Nat → Int32} (hsM : sM k a w bw bd bu nt ns tw td sb sd su) (y : Int32) (hn : ns < 40) : Met l yM_openShelf (tbw yM_openShelf cM_openShelf 2 none) rmM_openShelf (gPc D k a B0 w [.ref (a 15), .int y]) (va_Qv (fun w1 => (sM k a w1 bw bd (bu + y) nt (ns + 1) tw td (upd sb ns bu) (upd sd ns y) (upd su ns 0)) ∧ ∀ z, z < 15 ∨ 20 < z → w1 z = w z) (gB D k a) (gF B0)) 0 0 (gF B0) := by
  obtain ⟨hsM15, hsM16, hsM17, hsM18, hsM19, hsM20⟩ := hsM
  refine g_ofW (by decide) rfl (fun p e s m args below meth c Q hQ hx hb hr hlk hml hown hts hB hG hK hS ls hl => ?_)
  have hl : lv_has ls 2 [(0, .ref (a 15)), (1, .int y)] := hl
  have hown : s.vm.findClass RM = some m.cls := hown
  have hfr0 : ∀ z, z < 15 ∨ 20 < z → w z = w z := fun _ _ => rfl
  refine lv_aload_n hx hb dM_openShelf_0 rfl (lv_at hl 0 rfl) ?_
  refine g_get hx hb hts inM hown hK hG 15 (by decide) hsM15 rfl 2 (by decide) lkM_18 rfl dM_openShelf_1 ?_
  refine lv_aload_n hx hb dM_openShelf_4 rfl (lv_at hl 0 rfl) ?_
  refine g_get hx hb hts inM hown hK hG 15 (by decide) hsM15 rfl 9 (by decide) lkM_40 rfl dM_openShelf_5 ?_
  refine lv_aload_n hx hb dM_openShelf_8 rfl (lv_at hl 0 rfl) ?_
  refine g_get hx hb hts inM hown hK hG 15 (by decide) hsM15 rfl 7 (by decide) lkM_34 rfl dM_openShelf_9 ?_
  refine g_iast hx hb hK hA hG hS 18 (by decide) hsM18 (j := ns) (by omega) (by decide) dM_openShelf_12 (fun H locs hG hS => ?_)
  obtain ⟨w1, hw2⟩ : ∃ zz9, zz9 = va_up w 18 (.inl (k.1, 40, .inl (upd sb ns bu))) := ⟨_, rfl⟩
  replace hG : gW D a w1 H := by rw [hw2]; exact hG
  have h3 : w1 15 = .inr (4, [.ref (a 16), .ref (a 17), .ref (a 18), .ref (a 19), .ref (a 20), .int bw, .int bd, .int bu, .int (nI nt), .int (nI ns)]) := by rw [hw2]; exact hsM15
  have h4 : w1 16 = .inl (k.1, 40, .inl tw) := by rw [hw2]; exact hsM16
  have h5 : w1 17 = .inl (k.1, 40, .inl td) := by rw [hw2]; exact hsM17
  have h6 : w1 18 = .inl (k.1, 40, .inl (upd sb ns bu)) := by rw [hw2]; rfl
  have h7 : w1 19 = .inl (k.1, 40, .inl sd) := by rw [hw2]; exact hsM19
  have h8 : w1 20 = .inl (k.1, 40, .inl su) := by rw [hw2]; exact hsM20
  have hfr9 : ∀ z, z < 15 ∨ 20 < z → w1 z = w z := fun z hz => by rw [hw2]; exact (va_up_ne _ _ (by omega)).trans (hfr0 z hz)
  refine lv_aload_n hx hb dM_openShelf_13 rfl (lv_at hl 0 rfl) ?_
  refine g_get hx hb hts inM hown hK hG 15 (by decide) h3 rfl 3 (by decide) lkM_21 rfl dM_openShelf_14 ?_
  refine lv_aload_n hx hb dM_openShelf_17 rfl (lv_at hl 0 rfl) ?_
  refine g_get hx hb hts inM hown hK hG 15 (by decide) h3 rfl 9 (by decide) lkM_40 rfl dM_openShelf_18 ?_
  refine lv_iload_n hx hb dM_openShelf_21 rfl (lv_at hl 1 rfl) ?_
  refine g_iast hx hb hK hA hG hS 19 (by decide) h7 (j := ns) (by omega) (by decide) dM_openShelf_22 (fun H locs hG hS => ?_)
  obtain ⟨w10, hw11⟩ : ∃ zz9, zz9 = va_up w1 19 (.inl (k.1, 40, .inl (upd sd ns y))) := ⟨_, rfl⟩
  replace hG : gW D a w10 H := by rw [hw11]; exact hG
  have h12 : w10 15 = .inr (4, [.ref (a 16), .ref (a 17), .ref (a 18), .ref (a 19), .ref (a 20), .int bw, .int bd, .int bu, .int (nI nt), .int (nI ns)]) := by rw [hw11]; exact h3
  have h13 : w10 16 = .inl (k.1, 40, .inl tw) := by rw [hw11]; exact h4
  have h14 : w10 17 = .inl (k.1, 40, .inl td) := by rw [hw11]; exact h5
  have h15 : w10 18 = .inl (k.1, 40, .inl (upd sb ns bu)) := by rw [hw11]; exact h6
  have h16 : w10 19 = .inl (k.1, 40, .inl (upd sd ns y)) := by rw [hw11]; rfl
  have h17 : w10 20 = .inl (k.1, 40, .inl su) := by rw [hw11]; exact h8
  have hfr18 : ∀ z, z < 15 ∨ 20 < z → w10 z = w z := fun z hz => by rw [hw11]; exact (va_up_ne _ _ (by omega)).trans (hfr9 z hz)
  refine lv_aload_n hx hb dM_openShelf_23 rfl (lv_at hl 0 rfl) ?_
  refine g_get hx hb hts inM hown hK hG 15 (by decide) h12 rfl 4 (by decide) lkM_24 rfl dM_openShelf_24 ?_
  refine lv_aload_n hx hb dM_openShelf_27 rfl (lv_at hl 0 rfl) ?_
  refine g_get hx hb hts inM hown hK hG 15 (by decide) h12 rfl 9 (by decide) lkM_40 rfl dM_openShelf_28 ?_
  refine lv_iconst (v := 0) hx hb dM_openShelf_31 (by decide) ?_
  refine g_iast hx hb hK hA hG hS 20 (by decide) h17 (j := ns) (by omega) (by decide) dM_openShelf_32 (fun H locs hG hS => ?_)
  obtain ⟨w19, hw20⟩ : ∃ zz9, zz9 = va_up w10 20 (.inl (k.1, 40, .inl (upd su ns 0))) := ⟨_, rfl⟩
  replace hG : gW D a w19 H := by rw [hw20]; exact hG
  have h21 : w19 15 = .inr (4, [.ref (a 16), .ref (a 17), .ref (a 18), .ref (a 19), .ref (a 20), .int bw, .int bd, .int bu, .int (nI nt), .int (nI ns)]) := by rw [hw20]; exact h12
  have h22 : w19 16 = .inl (k.1, 40, .inl tw) := by rw [hw20]; exact h13
  have h23 : w19 17 = .inl (k.1, 40, .inl td) := by rw [hw20]; exact h14
  have h24 : w19 18 = .inl (k.1, 40, .inl (upd sb ns bu)) := by rw [hw20]; exact h15
  have h25 : w19 19 = .inl (k.1, 40, .inl (upd sd ns y)) := by rw [hw20]; exact h16
  have h26 : w19 20 = .inl (k.1, 40, .inl (upd su ns 0)) := by rw [hw20]; rfl
  have hfr27 : ∀ z, z < 15 ∨ 20 < z → w19 z = w z := fun z hz => by rw [hw20]; exact (va_up_ne _ _ (by omega)).trans (hfr18 z hz)
  refine lv_aload_n hx hb dM_openShelf_33 rfl (lv_at hl 0 rfl) ?_
  refine lv_dup hx hb dM_openShelf_34 rfl ?_
  refine g_get hx hb hts inM hown hK hG 15 (by decide) h21 rfl 7 (by decide) lkM_34 rfl dM_openShelf_35 ?_
  refine lv_iload_n hx hb dM_openShelf_38 rfl (lv_at hl 1 rfl) ?_
  refine lv_iadd hx hb dM_openShelf_39 ?_
  refine g_put hx hb hts inM tyM tokM nokM hown hK hA hG hS 15 (by decide) h21 rfl 7 (by decide) lkM_34 rfl (ty := .int) (by decide +kernel) rfl rfl (Nat.le_of_ble_eq_true rfl) dM_openShelf_40 (fun H locs hG hS => ?_)
  obtain ⟨w28, hw29⟩ : ∃ zz9, zz9 = va_up w19 15 (.inr (4, [.ref (a 16), .ref (a 17), .ref (a 18), .ref (a 19), .ref (a 20), .int bw, .int bd, .int (bu + y), .int (nI nt), .int (nI ns)])) := ⟨_, rfl⟩
  replace hG : gW D a w28 H := by rw [hw29]; exact hG
  have h30 : w28 15 = .inr (4, [.ref (a 16), .ref (a 17), .ref (a 18), .ref (a 19), .ref (a 20), .int bw, .int bd, .int (bu + y), .int (nI nt), .int (nI ns)]) := by rw [hw29]; rfl
  have h31 : w28 16 = .inl (k.1, 40, .inl tw) := by rw [hw29]; exact h22
  have h32 : w28 17 = .inl (k.1, 40, .inl td) := by rw [hw29]; exact h23
  have h33 : w28 18 = .inl (k.1, 40, .inl (upd sb ns bu)) := by rw [hw29]; exact h24
  have h34 : w28 19 = .inl (k.1, 40, .inl (upd sd ns y)) := by rw [hw29]; exact h25
  have h35 : w28 20 = .inl (k.1, 40, .inl (upd su ns 0)) := by rw [hw29]; exact h26
  have hfr36 : ∀ z, z < 15 ∨ 20 < z → w28 z = w z := fun z hz => by rw [hw29]; exact (va_up_ne _ _ (by omega)).trans (hfr27 z hz)
  refine lv_aload_n hx hb dM_openShelf_43 rfl (lv_at hl 0 rfl) ?_
  refine lv_dup hx hb dM_openShelf_44 rfl ?_
  refine g_get hx hb hts inM hown hK hG 15 (by decide) h30 rfl 9 (by decide) lkM_40 rfl dM_openShelf_45 ?_
  refine lv_iconst (v := 1) hx hb dM_openShelf_48 (by decide) ?_
  refine ln_iadd (x := ns) (y := 1) hx hb dM_openShelf_49 ?_
  refine g_put hx hb hts inM tyM tokM nokM hown hK hA hG hS 15 (by decide) h30 rfl 9 (by decide) lkM_40 rfl (ty := .int) (by decide +kernel) rfl rfl (Nat.le_of_ble_eq_true rfl) dM_openShelf_50 (fun H locs hG hS => ?_)
  obtain ⟨w37, hw38⟩ : ∃ zz9, zz9 = va_up w28 15 (.inr (4, [.ref (a 16), .ref (a 17), .ref (a 18), .ref (a 19), .ref (a 20), .int bw, .int bd, .int (bu + y), .int (nI nt), .int (nI (ns + 1))])) := ⟨_, rfl⟩
  replace hG : gW D a w37 H := by rw [hw38]; exact hG
  have h39 : w37 15 = .inr (4, [.ref (a 16), .ref (a 17), .ref (a 18), .ref (a 19), .ref (a 20), .int bw, .int bd, .int (bu + y), .int (nI nt), .int (nI (ns + 1))]) := by rw [hw38]; rfl
  have h40 : w37 16 = .inl (k.1, 40, .inl tw) := by rw [hw38]; exact h31
  have h41 : w37 17 = .inl (k.1, 40, .inl td) := by rw [hw38]; exact h32
  have h42 : w37 18 = .inl (k.1, 40, .inl (upd sb ns bu)) := by rw [hw38]; exact h33
  have h43 : w37 19 = .inl (k.1, 40, .inl (upd sd ns y)) := by rw [hw38]; exact h34
  have h44 : w37 20 = .inl (k.1, 40, .inl (upd su ns 0)) := by rw [hw38]; exact h35
  have hfr45 : ∀ z, z < 15 ∨ 20 < z → w37 z = w z := fun z hz => by rw [hw38]; exact (va_up_ne _ _ (by omega)).trans (hfr36 z hz)
  exact g_vret hQ hx hb hr hlk hG hK hS (by decide) (by decide) ⟨⟨h39, h40, h41, h42, h43, h44⟩, hfr45⟩ dM_openShelf_53
