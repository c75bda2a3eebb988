set_option maxRecDepth 100000 in
set_option maxHeartbeats 4000000 in
theorem law_loop {p : Program} {l : Launch} {e : Env} {s : State} {m : MethodId} {below : List Frame} {meth : Method} {c : Code} (hl9 : l.stackTraces = false) {D : va_G} {k : ClassId × ClassId × ClassId} {a : Nat → Nat} {b Ls : Nat} {xs : Nat → Int32} (hA : gA s.heap.size a) (hx : p.tables.exec = Jvm.exec) (hb : c.code = cL_law) (hr : meth.sig.returnType = ret) (hlk : meth.locks = false) (hml : c.maxLocals = 8) (hown : s.vm.findClass RL = some m.cls) (hts : ∀ w ∈ TB, w.before #[Value.ref b] s = true) (hK : va_K D vwCl (gT k) s) (hXS : xS s.heap.size s) (hX : va_X b Ls xs s s.heap) (hbl : b < s.heap.size) (hL9 : Ls ≤ 2048) :
    ∀ (d t : Nat) (w : Nat → va_E) (H : Heap) (locs : List Loc) (ls : Array Slot), Ls ≤ 4 * t + d → t ≤ 512 → gI k a w → gW D a w H → va_S (gF s.heap.size) s.heap H locs → lv_has ls 8 [(0, .ref b), (1, .ref (a 0)), (2, .ref (a 22)), (3, .ref (a 21)), (4, .int (nI (4 * t)))] → W p l e room_1 s m #[Value.ref b] below meth c H locs (38 + t) (955 + 6 * t) (lw_Z below #[Value.ref b] s) (F0 m 23 ls []) := by
  have hbA : ¬ gF s.heap.size b := Nat.not_le.mpr hbl
  intro d
  induction d with
  | zero =>
    intro t w H locs ls hd ht hI hG hS hl
    refine lv_iload hx hb dL_law_23 (lv_at hl 4 rfl) ?_
    refine lv_aload_n hx hb dL_law_25 rfl (lv_at hl 0 rfl) ?_
    refine va_slen hx hb hX hbl hbA hS dL_law_26 ?_
    refine lv_iconst (v := 4) hx hb dL_law_27 (by decide) ?_
    refine lv_isub hx hb dL_law_28 ?_
    have hcmp : Int32.ofNat Ls - 4 < nI (4 * t) ↔ ¬ 4 * t + 4 ≤ Ls := by
      show nI Ls - nI 4 < nI (4 * t) ↔ _
      rw [Int32.lt_iff_toInt_lt, pk_sub_toInt (by omega) (by omega), nI_toInt (by omega)]
      omega
    refine lv_icmp_gt (tgt := 1241) hx hb dL_law_29 (by decide) (fun c1 => ?_) (fun c1 => ?_)
    · refine lv_iconst (v := 1) hx hb dL_law_1241 (by decide) ?_
      refine va_forget (fun q hq => hS.2.2 q hq) ?_
      refine W.widen (k := 1087) (n := 9297) (by omega) (by omega) ?_
      exact lw_ret hx hb hr hlk dL_law_1242
    · have h4 : 4 * t + 4 ≤ Ls := Classical.byContradiction (fun z => c1 (hcmp.mpr z))
      omega
  | succ d ih =>
    intro t w H locs ls hd ht hI hG hS hl
    refine lv_iload hx hb dL_law_23 (lv_at hl 4 rfl) ?_
    refine lv_aload_n hx hb dL_law_25 rfl (lv_at hl 0 rfl) ?_
    refine va_slen hx hb hX hbl hbA hS dL_law_26 ?_
    refine lv_iconst (v := 4) hx hb dL_law_27 (by decide) ?_
    refine lv_isub hx hb dL_law_28 ?_
    have hcmp : Int32.ofNat Ls - 4 < nI (4 * t) ↔ ¬ 4 * t + 4 ≤ Ls := by
      show nI Ls - nI 4 < nI (4 * t) ↔ _
      rw [Int32.lt_iff_toInt_lt, pk_sub_toInt (by omega) (by omega), nI_toInt (by omega)]
      omega
    refine lv_icmp_gt (tgt := 1241) hx hb dL_law_29 (by decide) (fun c1 => ?_) (fun c1 => ?_)
    · refine lv_iconst (v := 1) hx hb dL_law_1241 (by decide) ?_
      refine va_forget (fun q hq => hS.2.2 q hq) ?_
      refine W.widen (k := 1087) (n := 9297) (by omega) (by omega) ?_
      exact lw_ret hx hb hr hlk dL_law_1242
    · have h4 : 4 * t + 4 ≤ Ls := Classical.byContradiction (fun z => c1 (hcmp.mpr z))
      refine lv_aload_n hx hb dL_law_32 rfl (lv_at hl 0 rfl) ?_
      refine lv_iload hx hb dL_law_33 (lv_at hl 4 rfl) ?_
      refine l_sld hx hb hX hbl hbA hS (by omega) (by omega) rfl dL_law_35 ?_
      refine lv_bipush (v := 31) hx hb dL_law_36 (by decide) ?_
      refine lv_iand hx hb dL_law_38 ?_
      have kk : ∀ (w2 : Nat → va_E) (H2 : Heap) (locs2 : List Loc) (ls2 : Array Slot), gI k a w2 → gW D a w2 H2 → va_S (gF s.heap.size) s.heap H2 locs2 → lv_has ls2 8 [(0, .ref b), (1, .ref (a 0)), (2, .ref (a 22)), (3, .ref (a 21)), (4, .int (nI (4 * t)))] → W p l e room_1 s m #[Value.ref b] below meth c H2 locs2 (38 + t + 1) (955 + 6 * t + 6) (lw_Z below #[Value.ref b] s) (F0 m 1235 ls2 []) := by
        intro w2 H2 locs2 ls2 hI2 hG2 hS2 hl2
        refine lv_iinc (v := nI (4 * (t + 1))) (lv' := [(4, .int (nI (4 * (t + 1)))), (0, .ref b), (1, .ref (a 0)), (2, .ref (a 22)), (3, .ref (a 21))]) hx hb dL_law_1235 hl2 (k := 4) rfl (nI_add (4 * t) 4) (by decide) rfl (fun ls3 hl3 => ?_)
        refine lv_goto (tgt := 23) hx hb dL_law_1238 (by decide) ?_
        exact ih (t + 1) w2 H2 locs2 ls3 (by omega) (by omega) hI2 hG2 hS2 (lv_sub hl3 [1, 2, 3, 4, 0] rfl)
      obtain ⟨j, hj, ej⟩ := pk_andE (xs (4 * t)) (m := 31) 5 (by decide)
      rw [ej]
      rcases (show j = 0 ∨ j = 1 ∨ j = 2 ∨ j = 3 ∨ j = 4 ∨ j = 5 ∨ j = 6 ∨ j = 7 ∨ j = 8 ∨ j = 9 ∨ j = 10 ∨ j = 11 ∨ j = 12 ∨ j = 13 ∨ j = 14 ∨ j = 15 ∨ j = 16 ∨ j = 17 ∨ 18 ≤ j by omega) with rfl | rfl | rfl | rfl | rfl | rfl | rfl | rfl | rfl | rfl | rfl | rfl | rfl | rfl | rfl | rfl | rfl | rfl | h18
      · exact lv_tableIn (off := 85) (tgt := 124) hx hb dL_law_39 (by decide) (by decide) rfl (by decide) (cs_box hl9 hA hx hb hml hown hts (Nat.le_refl _) hK hXS hX hbl hbA hL9 h4 hI hG hS hl (by omega) (by omega) kk)
      · exact lv_tableIn (off := 165) (tgt := 204) hx hb dL_law_39 (by decide) (by decide) rfl (by decide) (cs_cylinder hl9 hA hx hb hml hown hts (Nat.le_refl _) hK hXS hX hbl hbA hL9 h4 hI hG hS hl (by omega) (by omega) kk)
      · exact lv_tableIn (off := 233) (tgt := 272) hx hb dL_law_39 (by decide) (by decide) rfl (by decide) (cs_face hl9 hA hx hb hml hown hts (Nat.le_refl _) hK hXS hX hbl hbA hL9 h4 hI hG hS hl (by omega) (by omega) kk)
      · exact lv_tableIn (off := 293) (tgt := 332) hx hb dL_law_39 (by decide) (by decide) rfl (by decide) (cs_modulus hl9 hA hx hb hml hown hts (Nat.le_refl _) hK hXS hX hbl hbA hL9 h4 hI hG hS hl (by omega) (by omega) kk)
      · exact lv_tableIn (off := 360) (tgt := 399) hx hb dL_law_39 (by decide) (by decide) rfl (by decide) (cs_join hl9 hA hx hb hml hown hts (Nat.le_refl _) hK hXS hX hbl hbA hL9 h4 hI hG hS hl (by omega) (by omega) kk)
      · exact lv_tableIn (off := 436) (tgt := 475) hx hb dL_law_39 (by decide) (by decide) rfl (by decide) (cs_order hl9 hA hx hb hml hown hts (Nat.le_refl _) hK hXS hX hbl hbA hL9 h4 hI hG hS hl (by omega) (by omega) kk)
      · exact lv_tableIn (off := 492) (tgt := 531) hx hb dL_law_39 (by decide) (by decide) rfl (by decide) (cs_riserRow hl9 hA hx hb hml hown hts (Nat.le_refl _) hK hXS hX hbl hbA hL9 h4 hI hG hS hl (by omega) (by omega) kk)
      · exact lv_tableIn (off := 560) (tgt := 599) hx hb dL_law_39 (by decide) (by decide) rfl (by decide) (cs_riser hl9 hA hx hb hml hown hts (Nat.le_refl _) hK hXS hX hbl hbA hL9 h4 hI hG hS hl (by omega) (by omega) kk)
      · exact lv_tableIn (off := 616) (tgt := 655) hx hb dL_law_39 (by decide) (by decide) rfl (by decide) (cs_cutOff hl9 hA hx hb hml hown hts (Nat.le_refl _) hK hXS hX hbl hbA hL9 h4 hI hG hS hl (by omega) (by omega) kk)
      · exact lv_tableIn (off := 652) (tgt := 691) hx hb dL_law_39 (by decide) (by decide) rfl (by decide) (cs_feeder hl9 hA hx hb hml hown hts (Nat.le_refl _) hK hXS hX hbl hbA hL9 h4 hI hG hS hl (by omega) (by omega) kk)
      · exact lv_tableIn (off := 708) (tgt := 747) hx hb dL_law_39 (by decide) (by decide) rfl (by decide) (cs_unfed hl9 hA hx hb hml hown hts (Nat.le_refl _) hK hXS hX hbl hbA hL9 h4 hI hG hS hl (by omega) (by omega) kk)
      · exact lv_tableIn (off := 764) (tgt := 803) hx hb dL_law_39 (by decide) (by decide) rfl (by decide) (cs_flowRow hl9 hA hx hb hml hown hts (Nat.le_refl _) hK hXS hX hbl hbA hL9 h4 hI hG hS hl (by omega) (by omega) kk)
      · exact lv_tableIn (off := 832) (tgt := 871) hx hb dL_law_39 (by decide) (by decide) rfl (by decide) (cs_flow hl9 hA hx hb hml hown hts (Nat.le_refl _) hK hXS hX hbl hbA hL9 h4 hI hG hS hl (by omega) (by omega) kk)
      · exact lv_tableIn (off := 888) (tgt := 927) hx hb dL_law_39 (by decide) (by decide) rfl (by decide) (cs_gate hl9 hA hx hb hml hown hts (Nat.le_refl _) hK hXS hX hbl hbA hL9 h4 hI hG hS hl (by omega) (by omega) kk)
      · exact lv_tableIn (off := 944) (tgt := 983) hx hb dL_law_39 (by decide) (by decide) rfl (by decide) (cs_pattern hl9 hA hx hb hml hown hts (Nat.le_refl _) hK hXS hX hbl hbA hL9 h4 hI hG hS hl (by omega) (by omega) kk)
      · exact lv_tableIn (off := 1012) (tgt := 1051) hx hb dL_law_39 (by decide) (by decide) rfl (by decide) (cs_molding hl9 hA hx hb hml hown hts (Nat.le_refl _) hK hXS hX hbl hbA hL9 h4 hI hG hS hl (by omega) (by omega) kk)
      · exact lv_tableIn (off := 1060) (tgt := 1099) hx hb dL_law_39 (by decide) (by decide) rfl (by decide) (cs_pack hl9 hA hx hb hml hown hts (Nat.le_refl _) hK hXS hX hbl hbA hL9 h4 hI hG hS hl (by omega) (by omega) kk)
      · exact lv_tableIn (off := 1128) (tgt := 1167) hx hb dL_law_39 (by decide) (by decide) rfl (by decide) (cs_packed hl9 hA hx hb hml hown hts (Nat.le_refl _) hK hXS hX hbl hbA hL9 h4 hI hG hS hl (by omega) (by omega) kk)
      · refine lv_tableOut (tgt := 1235) hx hb dL_law_39 (Or.inr ?_) (by decide) ?_
        · rw [nI_toInt (by omega)]; omega
        · exact W.widen (by omega) (by omega) (kk w H locs ls hI hG hS hl)
