abbrev rmL_box_k : Room := { frames := 4, cells := 0, slots := 0, locals := 94 }
set_option maxRecDepth 100000 in
set_option maxHeartbeats 4000000 in
theorem kL_box_k {l : Launch} {D : va_G} {k : ClassId × ClassId × ClassId} {a : Nat → Nat} {B0 : Nat} {w : Nat → va_E} (hA : gA B0 a) {n : Nat} {up : Nat → Int64} {lo : Nat → Int64} {fa : Nat → Int32} {we : Nat → Int32} {ti : Nat → Int32} {ri : Nat → Int32} {jo : Nat → Int32} {oo : Nat → Int64} (hsX : sX k a w ) (hsP : sP k a w n up lo fa we ti ri jo) (hsO : sO k a w oo) (x : Int32) (y : Int32) (z : Int32) (hn : n < 12) (h1 : szR x) (h2 : szR y) (h3 : szR z) : Met l yL_box (tbwH yL_box cL_box 6 (some .int) hh_box) rmL_box_k (gPc D k a B0 w [.ref (a 0), .int x, .int y, .int z, .ref (a 21)]) (va_Qi (fun rr9 w1 => ∃ (up' : Nat → Int64) (lo' : Nat → Int64) (fa' : Nat → Int32) (we' : Nat → Int32) (ti' : Nat → Int32) (ri' : Nat → Int32), rr9 = 0 ∧ (sP k a w1 (n + 1) up' lo' fa' we' ti' ri' jo) ∧ (sO k a w1 (vp_updL oo 0 ((nI n).toInt64))) ∧ (up' = vp_updL up n (x.toInt64 * y.toInt64 * z.toInt64) ∧ fa' = upd fa n 6 ∧ ri' = upd ri n (-1) ∧ adB n 6 (qB x y z) lo we ti lo' we' ti') ∧ ∀ z, (z < 1 ∨ 8 < z) ∧ z ≠ 21 → w1 z = w z) (gB D k a) (gF B0)) 0 0 (gF B0) := by
  have hsX0 := hsX
  obtain ⟨hsP1, hsP2, hsP3, hsP4, hsP5, hsP6, hsP7, hsP8⟩ := hsP
  have hsO21 := hsO
  refine h_ofW (by decide) rfl (fun p e s m args below meth c Q hQ hx hb hr hlk hml hown hts hB hG hK hS ls hl => ?_)
  have hl : lv_has ls 6 [(0, .ref (a 0)), (1, .int x), (2, .int y), (3, .int z), (4, .ref (a 21))] := hl
  have hown : s.vm.findClass RL = some m.cls := hown
  have hfr0 : ∀ z, (z < 1 ∨ 8 < z) ∧ z ≠ 21 → w z = w z := fun _ _ => rfl
  refine lv_aload hx hb dL_box_0 (lv_at hl 4 rfl) ?_
  refine lv_iconst (v := 0) hx hb dL_box_2 (by decide) ?_
  refine lv_aload_n hx hb dL_box_3 rfl (lv_at hl 0 rfl) ?_
  refine lv_iload_n hx hb dL_box_4 rfl (lv_at hl 1 rfl) ?_
  refine lv_iload_n hx hb dL_box_5 rfl (lv_at hl 2 rfl) ?_
  refine lv_iload_n hx hb dL_box_6 rfl (lv_at hl 3 rfl) ?_
  refine g_Vi (i := 0) (As := [.int x, .int y, .int z]) (rest := [.int 0, .ref (a 21)]) (kX_box hA hsX0 ⟨hsP1, hsP2, hsP3, hsP4, hsP5, hsP6, hsP7, hsP8⟩ x y z hn h1 h2 h3) calX_box cvX_box mlL_7 hx hb hml hown hts hB hG hK hS (by decide) hsX0 rfl ⟨by decide, by decide⟩ rfl hl.1 rfl (Nat.le_of_ble_eq_true rfl) dL_box_7 ⟨by decide, by decide⟩ (fun r1 w2 H locs hp3 hG hS => ?_)
  obtain ⟨up_14, lo_15, fa_16, we_17, ti_18, ri_19, er12, ⟨h4, h5, h6, h7, h8, h9, h10, h11⟩, hx20, hfr13⟩ := hp3
  have h21 : w2 0 = .inr (0, [.ref (a 1), .ref (a 9), .ref (a 12), .ref (a 15)]) := (hfr13 0 (by omega)).trans hsX0
  have h22 : w2 21 = .inl (k.2.1, 1, .inr (.inl oo)) := (hfr13 21 (by omega)).trans hsO21
  have hfr23 : ∀ z, (z < 1 ∨ 8 < z) ∧ z ≠ 21 → w2 z = w z := fun z hz => (hfr13 z (by omega)).trans (hfr0 z hz)
  rw [er12]
  refine lv_i2l hx hb dL_box_10 rfl ?_
  refine g_last hx hb hK hA hG hS 21 (by decide) h22 (j := 0) (by omega) (by decide) dL_box_11 (fun H locs hG hS => ?_)
  obtain ⟨w24, hw25⟩ : ∃ zz9, zz9 = va_up w2 21 (.inl (k.2.1, 1, .inr (.inl (vp_updL oo 0 ((nI n).toInt64))))) := ⟨_, rfl⟩
  replace hG : gW D a w24 H := by rw [hw25]; exact hG
  have h26 : w24 0 = .inr (0, [.ref (a 1), .ref (a 9), .ref (a 12), .ref (a 15)]) := by rw [hw25]; exact h21
  have h27 : w24 1 = .inr (1, [.ref (a 2), .ref (a 3), .ref (a 4), .ref (a 5), .ref (a 6), .ref (a 7), .ref (a 8), .int (nI (n + 1))]) := by rw [hw25]; exact h4
  have h28 : w24 2 = .inl (k.2.1, 12, .inr (.inl up_14)) := by rw [hw25]; exact h5
  have h29 : w24 3 = .inl (k.2.1, 12, .inr (.inl lo_15)) := by rw [hw25]; exact h6
  have h30 : w24 4 = .inl (k.1, 12, .inl fa_16) := by rw [hw25]; exact h7
  have h31 : w24 5 = .inl (k.1, 72, .inl we_17) := by rw [hw25]; exact h8
  have h32 : w24 6 = .inl (k.1, 72, .inl ti_18) := by rw [hw25]; exact h9
  have h33 : w24 7 = .inl (k.1, 12, .inl ri_19) := by rw [hw25]; exact h10
  have h34 : w24 8 = .inl (k.2.2, 144, .inl jo) := by rw [hw25]; exact h11
  have h35 : w24 21 = .inl (k.2.1, 1, .inr (.inl (vp_updL oo 0 ((nI n).toInt64)))) := by rw [hw25]; rfl
  have hfr36 : ∀ z, (z < 1 ∨ 8 < z) ∧ z ≠ 21 → w24 z = w z := fun z hz => by rw [hw25]; exact (va_up_ne _ _ (by omega)).trans (hfr23 z hz)
  refine lv_goto (tgt := 23) hx hb dL_box_12 (by decide) ?_
  refine lv_iconst (v := 0) hx hb dL_box_23 (by decide) ?_
  exact g_iret hQ hx hb hr hlk hG hK hS (by decide) (by decide) ⟨up_14, lo_15, fa_16, we_17, ti_18, ri_19, by first | rfl | omega | (simp_all; done) | grind, ⟨h27, h28, h29, h30, h31, h32, h33, h34⟩, h35, hx20, hfr36⟩ dL_box_24

abbrev rmL_box_f : Room := { frames := 8, cells := 1, slots := 6, locals := 125 }
set_option maxRecDepth 100000 in
set_option maxHeartbeats 4000000 in
theorem kL_box_f {l : Launch} (hl9 : l.stackTraces = false) {D : va_G} {k : ClassId × ClassId × ClassId} {a : Nat → Nat} {B0 : Nat} {w : Nat → va_E} (hA : gA B0 a) {n : Nat} {up : Nat → Int64} {lo : Nat → Int64} {fa : Nat → Int32} {we : Nat → Int32} {ti : Nat → Int32} {ri : Nat → Int32} {jo : Nat → Int32} (hsX : sX k a w ) (hsP : sP k a w n up lo fa we ti ri jo) (x : Int32) (y : Int32) (z : Int32) (hn : n = 12) : Met l yL_box (tbwH yL_box cL_box 6 (some .int) hh_box) rmL_box_f (xPc D k a B0 w [.ref (a 0), .int x, .int y, .int z, .ref (a 21)]) (va_Qi (roP 1 w) (gB D k a) (gF B0)) 1 6 (gF B0) := by
  have hsX0 := hsX
  obtain ⟨hsP1, hsP2, hsP3, hsP4, hsP5, hsP6, hsP7, hsP8⟩ := hsP
  refine y_ofW (by decide) rfl (fun p e s m args below meth c Q hQ htab hx hb hr hlk hml hown hts hB hG hK hS hXS ls hl => ?_)
  have hl : lv_has ls 6 [(0, .ref (a 0)), (1, .int x), (2, .int y), (3, .int z), (4, .ref (a 21))] := hl
  have hown : s.vm.findClass RL = some m.cls := hown
  refine lv_aload hx hb dL_box_0 (lv_at hl 4 rfl) ?_
  refine lv_iconst (v := 0) hx hb dL_box_2 (by decide) ?_
  refine lv_aload_n hx hb dL_box_3 rfl (lv_at hl 0 rfl) ?_
  refine lv_iload_n hx hb dL_box_4 rfl (lv_at hl 1 rfl) ?_
  refine lv_iload_n hx hb dL_box_5 rfl (lv_at hl 2 rfl) ?_
  refine lv_iload_n hx hb dL_box_6 rfl (lv_at hl 3 rfl) ?_
  refine x_VX (i := 0) (As := [.int x, .int y, .int z]) (rest := [.int 0, .ref (a 21)]) (kX_box_f hl9 hA hsX0 ⟨hsP1, hsP2, hsP3, hsP4, hsP5, hsP6, hsP7, hsP8⟩ x y z hn) calX_box cvX_box mlL_7 hx hb hml hown hts hB hG hK hS hXS (by decide) hsX0 rfl ⟨by decide, by decide⟩ rfl hl.1 rfl (Nat.le_of_ble_eq_true rfl) dL_box_7 ⟨by decide, by decide⟩ (fun ce q9 H locs hG hS hce hcv hcl => ?_)
  refine vx_catch (E := eISE) (name := eISE) hown [] ⟨0, 12, 15, 13⟩ [⟨0, 12, 19, 15⟩] (htab.trans rfl) (fun _ h => nomatch h) (by decide) (by decide) (hts _ clL_13) (va_Nw.use rfl (hXS.2.2.2.1 (.castable eISE eISE) (by decide +kernel))) hce hcv hcl ?_
  refine lv_astore (lv' := [(5, .ref q9), (0, .ref (a 0)), (1, .int x), (2, .int y), (3, .int z), (4, .ref (a 21))]) hx hb dL_box_15 hl (by decide) rfl (fun ls hl => ?_)
  refine lv_iconst (v := 1) hx hb dL_box_17 (by decide) ?_
  exact g_iret hQ hx hb hr hlk hG hK hS (by decide) (by decide) ⟨by first | rfl | omega | (simp_all; done) | grind, rfl⟩ dL_box_18

abbrev rmL_box_z : Room := { frames := 8, cells := 1, slots := 6, locals := 125 }
set_option maxRecDepth 100000 in
set_option maxHeartbeats 4000000 in
theorem kL_box_z {l : Launch} (hl9 : l.stackTraces = false) {D : va_G} {k : ClassId × ClassId × ClassId} {a : Nat → Nat} {B0 : Nat} {w : Nat → va_E} (hA : gA B0 a) {n : Nat} {up : Nat → Int64} {lo : Nat → Int64} {fa : Nat → Int32} {we : Nat → Int32} {ti : Nat → Int32} {ri : Nat → Int32} {jo : Nat → Int32} (hsX : sX k a w ) (hsP : sP k a w n up lo fa we ti ri jo) (x : Int32) (y : Int32) (z : Int32) (hn : n < 12) (hz : ¬ (szR x ∧ szR y ∧ szR z)) : Met l yL_box (tbwH yL_box cL_box 6 (some .int) hh_box) rmL_box_z (xPc D k a B0 w [.ref (a 0), .int x, .int y, .int z, .ref (a 21)]) (va_Qi (roP 2 w) (gB D k a) (gF B0)) 1 6 (gF B0) := by
  have hsX0 := hsX
  obtain ⟨hsP1, hsP2, hsP3, hsP4, hsP5, hsP6, hsP7, hsP8⟩ := hsP
  refine y_ofW (by decide) rfl (fun p e s m args below meth c Q hQ htab hx hb hr hlk hml hown hts hB hG hK hS hXS ls hl => ?_)
  have hl : lv_has ls 6 [(0, .ref (a 0)), (1, .int x), (2, .int y), (3, .int z), (4, .ref (a 21))] := hl
  have hown : s.vm.findClass RL = some m.cls := hown
  refine lv_aload hx hb dL_box_0 (lv_at hl 4 rfl) ?_
  refine lv_iconst (v := 0) hx hb dL_box_2 (by decide) ?_
  refine lv_aload_n hx hb dL_box_3 rfl (lv_at hl 0 rfl) ?_
  refine lv_iload_n hx hb dL_box_4 rfl (lv_at hl 1 rfl) ?_
  refine lv_iload_n hx hb dL_box_5 rfl (lv_at hl 2 rfl) ?_
  refine lv_iload_n hx hb dL_box_6 rfl (lv_at hl 3 rfl) ?_
  refine x_VX (i := 0) (As := [.int x, .int y, .int z]) (rest := [.int 0, .ref (a 21)]) (kX_box_z hl9 hA hsX0 ⟨hsP1, hsP2, hsP3, hsP4, hsP5, hsP6, hsP7, hsP8⟩ x y z hn hz) calX_box cvX_box mlL_7 hx hb hml hown hts hB hG hK hS hXS (by decide) hsX0 rfl ⟨by decide, by decide⟩ rfl hl.1 rfl (Nat.le_of_ble_eq_true rfl) dL_box_7 ⟨by decide, by decide⟩ (fun ce q9 H locs hG hS hce hcv hcl => ?_)
  refine vx_catch (E := eIAE) (name := eIAE) hown [⟨0, 12, 15, 13⟩] ⟨0, 12, 19, 15⟩ [] (htab.trans rfl) (List.forall_mem_cons.mpr ⟨Or.inr ⟨by decide, eISE, hts _ clL_13, hXS.2.2.2.2 (eIAE, eISE) (by decide +kernel)⟩, (fun _ h => nomatch h)⟩) (by decide) (by decide) (hts _ clL_15) (va_Nw.use rfl (hXS.2.2.2.1 (.castable eIAE eIAE) (by decide +kernel))) hce hcv hcl ?_
  refine lv_astore (lv' := [(5, .ref q9), (0, .ref (a 0)), (1, .int x), (2, .int y), (3, .int z), (4, .ref (a 21))]) hx hb dL_box_19 hl (by decide) rfl (fun ls hl => ?_)
  refine lv_iconst (v := 2) hx hb dL_box_21 (by decide) ?_
  exact g_iret hQ hx hb hr hlk hG hK hS (by decide) (by decide) ⟨by first | rfl | omega | (simp_all; done) | grind, rfl⟩ dL_box_22

abbrev rmL_cylinder_k : Room := { frames := 4, cells := 0, slots := 0, locals := 92 }
set_option maxRecDepth 100000 in
set_option maxHeartbeats 4000000 in
theorem kL_cylinder_k {l : Launch} {D : va_G} {k : ClassId × ClassId × ClassId} {a : Nat → Nat} {B0 : Nat} {w : Nat → va_E} (hA : gA B0 a) {n : Nat} {up : Nat → Int64} {lo : Nat → Int64} {fa : Nat → Int32} {we : Nat → Int32} {ti : Nat → Int32} {ri : Nat → Int32} {jo : Nat → Int32} {oo : Nat → Int64} (hsX : sX k a w ) (hsP : sP k a w n up lo fa we ti ri jo) (hsO : sO k a w oo) (x : Int32) (y : Int32) (hn : n < 12) (h1 : szR x) (h2 : szR y) : Met l yL_cylinder (tbwH yL_cylinder cL_cylinder 5 (some .int) hh_cylinder) rmL_cylinder_k (gPc D k a B0 w [.ref (a 0), .int x, .int y, .ref (a 21)]) (va_Qi (fun rr9 w1 => ∃ (up' : Nat → Int64) (lo' : Nat → Int64) (fa' : Nat → Int32) (we' : Nat → Int32) (ti' : Nat → Int32) (ri' : Nat → Int32), rr9 = 0 ∧ (sP k a w1 (n + 1) up' lo' fa' we' ti' ri' jo) ∧ (sO k a w1 (vp_updL oo 0 ((nI n).toInt64))) ∧ (up' = vp_updL up n (x.toInt64 * y.toInt64) ∧ fa' = upd fa n 3 ∧ ri' = upd ri n (-1) ∧ adB n 3 (qC x y) lo we ti lo' we' ti') ∧ ∀ z, (z < 1 ∨ 8 < z) ∧ z ≠ 21 → w1 z = w z) (gB D k a) (gF B0)) 0 0 (gF B0) := by
  have hsX0 := hsX
  obtain ⟨hsP1, hsP2, hsP3, hsP4, hsP5, hsP6, hsP7, hsP8⟩ := hsP
  have hsO21 := hsO
  refine h_ofW (by decide) rfl (fun p e s m args below meth c Q hQ hx hb hr hlk hml hown hts hB hG hK hS ls hl => ?_)
  have hl : lv_has ls 5 [(0, .ref (a 0)), (1, .int x), (2, .int y), (3, .ref (a 21))] := hl
  have hown : s.vm.findClass RL = some m.cls := hown
  have hfr0 : ∀ z, (z < 1 ∨ 8 < z) ∧ z ≠ 21 → w z = w z := fun _ _ => rfl
  refine lv_aload_n hx hb dL_cylinder_0 rfl (lv_at hl 3 rfl) ?_
  refine lv_iconst (v := 0) hx hb dL_cylinder_1 (by decide) ?_
  refine lv_aload_n hx hb dL_cylinder_2 rfl (lv_at hl 0 rfl) ?_
  refine lv_iload_n hx hb dL_cylinder_3 rfl (lv_at hl 1 rfl) ?_
  refine lv_iload_n hx hb dL_cylinder_4 rfl (lv_at hl 2 rfl) ?_
  refine g_Vi (i := 0) (As := [.int x, .int y]) (rest := [.int 0, .ref (a 21)]) (kX_cylinder hA hsX0 ⟨hsP1, hsP2, hsP3, hsP4, hsP5, hsP6, hsP7, hsP8⟩ x y hn h1 h2) calX_cylinder cvX_cylinder mlL_17 hx hb hml hown hts hB hG hK hS (by decide) hsX0 rfl ⟨by decide, by decide⟩ rfl hl.1 rfl (Nat.le_of_ble_eq_true rfl) dL_cylinder_5 ⟨by decide, by decide⟩ (fun r1 w2 H locs hp3 hG hS => ?_)
  obtain ⟨up_14, lo_15, fa_16, we_17, ti_18, ri_19, er12, ⟨h4, h5, h6, h7, h8, h9, h10, h11⟩, hx20, hfr13⟩ := hp3
  have h21 : w2 0 = .inr (0, [.ref (a 1), .ref (a 9), .ref (a 12), .ref (a 15)]) := (hfr13 0 (by omega)).trans hsX0
  have h22 : w2 21 = .inl (k.2.1, 1, .inr (.inl oo)) := (hfr13 21 (by omega)).trans hsO21
  have hfr23 : ∀ z, (z < 1 ∨ 8 < z) ∧ z ≠ 21 → w2 z = w z := fun z hz => (hfr13 z (by omega)).trans (hfr0 z hz)
  rw [er12]
  refine lv_i2l hx hb dL_cylinder_8 rfl ?_
  refine g_last hx hb hK hA hG hS 21 (by decide) h22 (j := 0) (by omega) (by decide) dL_cylinder_9 (fun H locs hG hS => ?_)
  obtain ⟨w24, hw25⟩ : ∃ zz9, zz9 = va_up w2 21 (.inl (k.2.1, 1, .inr (.inl (vp_updL oo 0 ((nI n).toInt64))))) := ⟨_, rfl⟩
  replace hG : gW D a w24 H := by rw [hw25]; exact hG
  have h26 : w24 0 = .inr (0, [.ref (a 1), .ref (a 9), .ref (a 12), .ref (a 15)]) := by rw [hw25]; exact h21
  have h27 : w24 1 = .inr (1, [.ref (a 2), .ref (a 3), .ref (a 4), .ref (a 5), .ref (a 6), .ref (a 7), .ref (a 8), .int (nI (n + 1))]) := by rw [hw25]; exact h4
  have h28 : w24 2 = .inl (k.2.1, 12, .inr (.inl up_14)) := by rw [hw25]; exact h5
  have h29 : w24 3 = .inl (k.2.1, 12, .inr (.inl lo_15)) := by rw [hw25]; exact h6
  have h30 : w24 4 = .inl (k.1, 12, .inl fa_16) := by rw [hw25]; exact h7
  have h31 : w24 5 = .inl (k.1, 72, .inl we_17) := by rw [hw25]; exact h8
  have h32 : w24 6 = .inl (k.1, 72, .inl ti_18) := by rw [hw25]; exact h9
  have h33 : w24 7 = .inl (k.1, 12, .inl ri_19) := by rw [hw25]; exact h10
  have h34 : w24 8 = .inl (k.2.2, 144, .inl jo) := by rw [hw25]; exact h11
  have h35 : w24 21 = .inl (k.2.1, 1, .inr (.inl (vp_updL oo 0 ((nI n).toInt64)))) := by rw [hw25]; rfl
  have hfr36 : ∀ z, (z < 1 ∨ 8 < z) ∧ z ≠ 21 → w24 z = w z := fun z hz => by rw [hw25]; exact (va_up_ne _ _ (by omega)).trans (hfr23 z hz)
  refine lv_goto (tgt := 21) hx hb dL_cylinder_10 (by decide) ?_
  refine lv_iconst (v := 0) hx hb dL_cylinder_21 (by decide) ?_
  exact g_iret hQ hx hb hr hlk hG hK hS (by decide) (by decide) ⟨up_14, lo_15, fa_16, we_17, ti_18, ri_19, by first | rfl | omega | (simp_all; done) | grind, ⟨h27, h28, h29, h30, h31, h32, h33, h34⟩, h35, hx20, hfr36⟩ dL_cylinder_22

abbrev rmL_cylinder_f : Room := { frames := 8, cells := 1, slots := 6, locals := 124 }
set_option maxRecDepth 100000 in
set_option maxHeartbeats 4000000 in
theorem kL_cylinder_f {l : Launch} (hl9 : l.stackTraces = false) {D : va_G} {k : ClassId × ClassId × ClassId} {a : Nat → Nat} {B0 : Nat} {w : Nat → va_E} (hA : gA B0 a) {n : Nat} {up : Nat → Int64} {lo : Nat → Int64} {fa : Nat → Int32} {we : Nat → Int32} {ti : Nat → Int32} {ri : Nat → Int32} {jo : Nat → Int32} (hsX : sX k a w ) (hsP : sP k a w n up lo fa we ti ri jo) (x : Int32) (y : Int32) (hn : n = 12) : Met l yL_cylinder (tbwH yL_cylinder cL_cylinder 5 (some .int) hh_cylinder) rmL_cylinder_f (xPc D k a B0 w [.ref (a 0), .int x, .int y, .ref (a 21)]) (va_Qi (roP 1 w) (gB D k a) (gF B0)) 1 6 (gF B0) := by
  have hsX0 := hsX
  obtain ⟨hsP1, hsP2, hsP3, hsP4, hsP5, hsP6, hsP7, hsP8⟩ := hsP
  refine y_ofW (by decide) rfl (fun p e s m args below meth c Q hQ htab hx hb hr hlk hml hown hts hB hG hK hS hXS ls hl => ?_)
  have hl : lv_has ls 5 [(0, .ref (a 0)), (1, .int x), (2, .int y), (3, .ref (a 21))] := hl
  have hown : s.vm.findClass RL = some m.cls := hown
  refine lv_aload_n hx hb dL_cylinder_0 rfl (lv_at hl 3 rfl) ?_
  refine lv_iconst (v := 0) hx hb dL_cylinder_1 (by decide) ?_
  refine lv_aload_n hx hb dL_cylinder_2 rfl (lv_at hl 0 rfl) ?_
  refine lv_iload_n hx hb dL_cylinder_3 rfl (lv_at hl 1 rfl) ?_
  refine lv_iload_n hx hb dL_cylinder_4 rfl (lv_at hl 2 rfl) ?_
  refine x_VX (i := 0) (As := [.int x, .int y]) (rest := [.int 0, .ref (a 21)]) (kX_cylinder_f hl9 hA hsX0 ⟨hsP1, hsP2, hsP3, hsP4, hsP5, hsP6, hsP7, hsP8⟩ x y hn) calX_cylinder cvX_cylinder mlL_17 hx hb hml hown hts hB hG hK hS hXS (by decide) hsX0 rfl ⟨by decide, by decide⟩ rfl hl.1 rfl (Nat.le_of_ble_eq_true rfl) dL_cylinder_5 ⟨by decide, by decide⟩ (fun ce q9 H locs hG hS hce hcv hcl => ?_)
  refine vx_catch (E := eISE) (name := eISE) hown [] ⟨0, 10, 13, 13⟩ [⟨0, 10, 17, 15⟩] (htab.trans rfl) (fun _ h => nomatch h) (by decide) (by decide) (hts _ clL_13) (va_Nw.use rfl (hXS.2.2.2.1 (.castable eISE eISE) (by decide +kernel))) hce hcv hcl ?_
  refine lv_astore (lv' := [(4, .ref q9), (0, .ref (a 0)), (1, .int x), (2, .int y), (3, .ref (a 21))]) hx hb dL_cylinder_13 hl (by decide) rfl (fun ls hl => ?_)
  refine lv_iconst (v := 1) hx hb dL_cylinder_15 (by decide) ?_
  exact g_iret hQ hx hb hr hlk hG hK hS (by decide) (by decide) ⟨by first | rfl | omega | (simp_all; done) | grind, rfl⟩ dL_cylinder_16

abbrev rmL_cylinder_z : Room := { frames := 8, cells := 1, slots := 6, locals := 124 }
set_option maxRecDepth 100000 in
set_option maxHeartbeats 4000000 in
theorem kL_cylinder_z {l : Launch} (hl9 : l.stackTraces = false) {D : va_G} {k : ClassId × ClassId × ClassId} {a : Nat → Nat} {B0 : Nat} {w : Nat → va_E} (hA : gA B0 a) {n : Nat} {up : Nat → Int64} {lo : Nat → Int64} {fa : Nat → Int32} {we : Nat → Int32} {ti : Nat → Int32} {ri : Nat → Int32} {jo : Nat → Int32} (hsX : sX k a w ) (hsP : sP k a w n up lo fa we ti ri jo) (x : Int32) (y : Int32) (hn : n < 12) (hz : ¬ (szR x ∧ szR y)) : Met l yL_cylinder (tbwH yL_cylinder cL_cylinder 5 (some .int) hh_cylinder) rmL_cylinder_z (xPc D k a B0 w [.ref (a 0), .int x, .int y, .ref (a 21)]) (va_Qi (roP 2 w) (gB D k a) (gF B0)) 1 6 (gF B0) := by
  have hsX0 := hsX
  obtain ⟨hsP1, hsP2, hsP3, hsP4, hsP5, hsP6, hsP7, hsP8⟩ := hsP
  refine y_ofW (by decide) rfl (fun p e s m args below meth c Q hQ htab hx hb hr hlk hml hown hts hB hG hK hS hXS ls hl => ?_)
  have hl : lv_has ls 5 [(0, .ref (a 0)), (1, .int x), (2, .int y), (3, .ref (a 21))] := hl
  have hown : s.vm.findClass RL = some m.cls := hown
  refine lv_aload_n hx hb dL_cylinder_0 rfl (lv_at hl 3 rfl) ?_
  refine lv_iconst (v := 0) hx hb dL_cylinder_1 (by decide) ?_
  refine lv_aload_n hx hb dL_cylinder_2 rfl (lv_at hl 0 rfl) ?_
  refine lv_iload_n hx hb dL_cylinder_3 rfl (lv_at hl 1 rfl) ?_
  refine lv_iload_n hx hb dL_cylinder_4 rfl (lv_at hl 2 rfl) ?_
  refine x_VX (i := 0) (As := [.int x, .int y]) (rest := [.int 0, .ref (a 21)]) (kX_cylinder_z hl9 hA hsX0 ⟨hsP1, hsP2, hsP3, hsP4, hsP5, hsP6, hsP7, hsP8⟩ x y hn hz) calX_cylinder cvX_cylinder mlL_17 hx hb hml hown hts hB hG hK hS hXS (by decide) hsX0 rfl ⟨by decide, by decide⟩ rfl hl.1 rfl (Nat.le_of_ble_eq_true rfl) dL_cylinder_5 ⟨by decide, by decide⟩ (fun ce q9 H locs hG hS hce hcv hcl => ?_)
  refine vx_catch (E := eIAE) (name := eIAE) hown [⟨0, 10, 13, 13⟩] ⟨0, 10, 17, 15⟩ [] (htab.trans rfl) (List.forall_mem_cons.mpr ⟨Or.inr ⟨by decide, eISE, hts _ clL_13, hXS.2.2.2.2 (eIAE, eISE) (by decide +kernel)⟩, (fun _ h => nomatch h)⟩) (by decide) (by decide) (hts _ clL_15) (va_Nw.use rfl (hXS.2.2.2.1 (.castable eIAE eIAE) (by decide +kernel))) hce hcv hcl ?_
  refine lv_astore (lv' := [(4, .ref q9), (0, .ref (a 0)), (1, .int x), (2, .int y), (3, .ref (a 21))]) hx hb dL_cylinder_17 hl (by decide) rfl (fun ls hl => ?_)
  refine lv_iconst (v := 2) hx hb dL_cylinder_19 (by decide) ?_
  exact g_iret hQ hx hb hr hlk hG hK hS (by decide) (by decide) ⟨by first | rfl | omega | (simp_all; done) | grind, rfl⟩ dL_cylinder_20

abbrev rmL_face_k : Room := { frames := 3, cells := 0, slots := 0, locals := 65 }
set_option maxRecDepth 100000 in
set_option maxHeartbeats 4000000 in
theorem kL_face_k {l : Launch} {D : va_G} {k : ClassId × ClassId × ClassId} {a : Nat → Nat} {B0 : Nat} {w : Nat → va_E} (hA : gA B0 a) {n : Nat} {up : Nat → Int64} {lo : Nat → Int64} {fa : Nat → Int32} {we : Nat → Int32} {ti : Nat → Int32} {ri : Nat → Int32} {jo : Nat → Int32} (hsX : sX k a w ) (hsP : sP k a w n up lo fa we ti ri jo) (j : Nat) (g : Nat) (h : Int32) (hj : j < n) (hn : n ≤ 12) (hg : g < 6) (hfa : ¬ fa j ≤ nI g) (hh : rngI h 0 2) : Met l yL_face (tbwH yL_face cL_face 5 (some .int) hh_face) rmL_face_k (gPc D k a B0 w [.ref (a 0), .int (nI j), .int (nI g), .int h]) (va_Qi (fun rr9 w1 => rr9 = 0 ∧ (sP k a w1 n up (vp_updL lo j (lo j + (we (j * 6 + g)).toInt64 * (h - ti (j * 6 + g)).toInt64)) fa we (upd ti (j * 6 + g) h) ri jo) ∧ ∀ z, z < 1 ∨ 8 < z → w1 z = w z) (gB D k a) (gF B0)) 0 0 (gF B0) := by
  have hsX0 := hsX
  obtain ⟨hsP1, hsP2, hsP3, hsP4, hsP5, hsP6, hsP7, hsP8⟩ := hsP
  refine h_ofW (by decide) rfl (fun p e s m args below meth c Q hQ hx hb hr hlk hml hown hts hB hG hK hS ls hl => ?_)
  have hl : lv_has ls 5 [(0, .ref (a 0)), (1, .int (nI j)), (2, .int (nI g)), (3, .int h)] := hl
  have hown : s.vm.findClass RL = some m.cls := hown
  have hfr0 : ∀ z, z < 1 ∨ 8 < z → w z = w z := fun _ _ => rfl
  refine lv_aload_n hx hb dL_face_0 rfl (lv_at hl 0 rfl) ?_
  refine lv_iload_n hx hb dL_face_1 rfl (lv_at hl 1 rfl) ?_
  refine lv_iload_n hx hb dL_face_2 rfl (lv_at hl 2 rfl) ?_
  refine lv_iload_n hx hb dL_face_3 rfl (lv_at hl 3 rfl) ?_
  refine g_Vv (i := 0) (As := [.int (nI j), .int (nI g), .int h]) (rest := []) (kX_face hA hsX0 ⟨hsP1, hsP2, hsP3, hsP4, hsP5, hsP6, hsP7, hsP8⟩ j g h hj hn hg hfa hh) calX_face cvX_face mlL_21 hx hb hml hown hts hB hG hK hS (by decide) hsX0 rfl ⟨by decide, by decide⟩ rfl hl.1 rfl (Nat.le_of_ble_eq_true rfl) dL_face_4 ⟨by decide, by decide⟩ (fun w2 H locs hp3 hG hS => ?_)
  obtain ⟨⟨h4, h5, h6, h7, h8, h9, h10, h11⟩, hfr13⟩ := hp3
  have h14 : w2 0 = .inr (0, [.ref (a 1), .ref (a 9), .ref (a 12), .ref (a 15)]) := (hfr13 0 (by omega)).trans hsX0
  have hfr15 : ∀ z, z < 1 ∨ 8 < z → w2 z = w z := fun z hz => (hfr13 z (by omega)).trans (hfr0 z hz)
  refine lv_goto (tgt := 18) hx hb dL_face_7 (by decide) ?_
  refine lv_iconst (v := 0) hx hb dL_face_18 (by decide) ?_
  exact g_iret hQ hx hb hr hlk hG hK hS (by decide) (by decide) ⟨by first | rfl | omega | (simp_all; done) | grind, ⟨h4, h5, h6, h7, h8, h9, h10, h11⟩, hfr15⟩ dL_face_19

abbrev rmL_face_p : Room := { frames := 8, cells := 1, slots := 6, locals := 126 }
set_option maxRecDepth 100000 in
set_option maxHeartbeats 4000000 in
theorem kL_face_p {l : Launch} (hl9 : l.stackTraces = false) {D : va_G} {k : ClassId × ClassId × ClassId} {a : Nat → Nat} {B0 : Nat} {w : Nat → va_E} (hA : gA B0 a) {n : Nat} {up : Nat → Int64} {lo : Nat → Int64} {fa : Nat → Int32} {we : Nat → Int32} {ti : Nat → Int32} {ri : Nat → Int32} {jo : Nat → Int32} (hsX : sX k a w ) (hsP : sP k a w n up lo fa we ti ri jo) (q : Int32) (f : Int32) (h : Int32) (hq : ¬ (¬ q < 0 ∧ ¬ nI n ≤ q)) : Met l yL_face (tbwH yL_face cL_face 5 (some .int) hh_face) rmL_face_p (xPc D k a B0 w [.ref (a 0), .int q, .int f, .int h]) (va_Qi (roP 1 w) (gB D k a) (gF B0)) 1 6 (gF B0) := by
  have hsX0 := hsX
  obtain ⟨hsP1, hsP2, hsP3, hsP4, hsP5, hsP6, hsP7, hsP8⟩ := hsP
  refine y_ofW (by decide) rfl (fun p e s m args below meth c Q hQ htab hx hb hr hlk hml hown hts hB hG hK hS hXS ls hl => ?_)
  have hl : lv_has ls 5 [(0, .ref (a 0)), (1, .int q), (2, .int f), (3, .int h)] := hl
  have hown : s.vm.findClass RL = some m.cls := hown
  refine lv_aload_n hx hb dL_face_0 rfl (lv_at hl 0 rfl) ?_
  refine lv_iload_n hx hb dL_face_1 rfl (lv_at hl 1 rfl) ?_
  refine lv_iload_n hx hb dL_face_2 rfl (lv_at hl 2 rfl) ?_
  refine lv_iload_n hx hb dL_face_3 rfl (lv_at hl 3 rfl) ?_
  refine x_VX (i := 0) (As := [.int q, .int f, .int h]) (rest := []) (kX_face_p hl9 hA hsX0 ⟨hsP1, hsP2, hsP3, hsP4, hsP5, hsP6, hsP7, hsP8⟩ q f h hq) calX_face cvX_face mlL_21 hx hb hml hown hts hB hG hK hS hXS (by decide) hsX0 rfl ⟨by decide, by decide⟩ rfl hl.1 rfl (Nat.le_of_ble_eq_true rfl) dL_face_4 ⟨by decide, by decide⟩ (fun ce q9 H locs hG hS hce hcv hcl => ?_)
  refine vx_catch (E := eIOB) (name := eIOB) hown [] ⟨0, 7, 10, 25⟩ [⟨0, 7, 14, 15⟩] (htab.trans rfl) (fun _ h => nomatch h) (by decide) (by decide) (hts _ clL_25) (va_Nw.use rfl (hXS.2.2.2.1 (.castable eIOB eIOB) (by decide +kernel))) hce hcv hcl ?_
  refine lv_astore (lv' := [(4, .ref q9), (0, .ref (a 0)), (1, .int q), (2, .int f), (3, .int h)]) hx hb dL_face_10 hl (by decide) rfl (fun ls hl => ?_)
  refine lv_iconst (v := 1) hx hb dL_face_12 (by decide) ?_
  exact g_iret hQ hx hb hr hlk hG hK hS (by decide) (by decide) ⟨by first | rfl | omega | (simp_all; done) | grind, rfl⟩ dL_face_13

abbrev rmL_face_f : Room := { frames := 8, cells := 1, slots := 6, locals := 126 }
set_option maxRecDepth 100000 in
set_option maxHeartbeats 4000000 in
theorem kL_face_f {l : Launch} (hl9 : l.stackTraces = false) {D : va_G} {k : ClassId × ClassId × ClassId} {a : Nat → Nat} {B0 : Nat} {w : Nat → va_E} (hA : gA B0 a) {n : Nat} {up : Nat → Int64} {lo : Nat → Int64} {fa : Nat → Int32} {we : Nat → Int32} {ti : Nat → Int32} {ri : Nat → Int32} {jo : Nat → Int32} (hsX : sX k a w ) (hsP : sP k a w n up lo fa we ti ri jo) (j : Nat) (f : Int32) (h : Int32) (hj : j < n) (hn : n ≤ 12) (hf : ¬ (¬ f < 0 ∧ ¬ fa j ≤ f)) : Met l yL_face (tbwH yL_face cL_face 5 (some .int) hh_face) rmL_face_f (xPc D k a B0 w [.ref (a 0), .int (nI j), .int f, .int h]) (va_Qi (roP 1 w) (gB D k a) (gF B0)) 1 6 (gF B0) := by
  have hsX0 := hsX
  obtain ⟨hsP1, hsP2, hsP3, hsP4, hsP5, hsP6, hsP7, hsP8⟩ := hsP
  refine y_ofW (by decide) rfl (fun p e s m args below meth c Q hQ htab hx hb hr hlk hml hown hts hB hG hK hS hXS ls hl => ?_)
  have hl : lv_has ls 5 [(0, .ref (a 0)), (1, .int (nI j)), (2, .int f), (3, .int h)] := hl
  have hown : s.vm.findClass RL = some m.cls := hown
  refine lv_aload_n hx hb dL_face_0 rfl (lv_at hl 0 rfl) ?_
  refine lv_iload_n hx hb dL_face_1 rfl (lv_at hl 1 rfl) ?_
  refine lv_iload_n hx hb dL_face_2 rfl (lv_at hl 2 rfl) ?_
  refine lv_iload_n hx hb dL_face_3 rfl (lv_at hl 3 rfl) ?_
  refine x_VX (i := 0) (As := [.int (nI j), .int f, .int h]) (rest := []) (kX_face_f hl9 hA hsX0 ⟨hsP1, hsP2, hsP3, hsP4, hsP5, hsP6, hsP7, hsP8⟩ j f h hj hn hf) calX_face cvX_face mlL_21 hx hb hml hown hts hB hG hK hS hXS (by decide) hsX0 rfl ⟨by decide, by decide⟩ rfl hl.1 rfl (Nat.le_of_ble_eq_true rfl) dL_face_4 ⟨by decide, by decide⟩ (fun ce q9 H locs hG hS hce hcv hcl => ?_)
  refine vx_catch (E := eIOB) (name := eIOB) hown [] ⟨0, 7, 10, 25⟩ [⟨0, 7, 14, 15⟩] (htab.trans rfl) (fun _ h => nomatch h) (by decide) (by decide) (hts _ clL_25) (va_Nw.use rfl (hXS.2.2.2.1 (.castable eIOB eIOB) (by decide +kernel))) hce hcv hcl ?_
  refine lv_astore (lv' := [(4, .ref q9), (0, .ref (a 0)), (1, .int (nI j)), (2, .int f), (3, .int h)]) hx hb dL_face_10 hl (by decide) rfl (fun ls hl => ?_)
  refine lv_iconst (v := 1) hx hb dL_face_12 (by decide) ?_
  exact g_iret hQ hx hb hr hlk hG hK hS (by decide) (by decide) ⟨by first | rfl | omega | (simp_all; done) | grind, rfl⟩ dL_face_13

abbrev rmL_face_h : Room := { frames := 8, cells := 1, slots := 6, locals := 126 }
set_option maxRecDepth 100000 in
set_option maxHeartbeats 4000000 in
theorem kL_face_h {l : Launch} (hl9 : l.stackTraces = false) {D : va_G} {k : ClassId × ClassId × ClassId} {a : Nat → Nat} {B0 : Nat} {w : Nat → va_E} (hA : gA B0 a) {n : Nat} {up : Nat → Int64} {lo : Nat → Int64} {fa : Nat → Int32} {we : Nat → Int32} {ti : Nat → Int32} {ri : Nat → Int32} {jo : Nat → Int32} (hsX : sX k a w ) (hsP : sP k a w n up lo fa we ti ri jo) (j : Nat) (f : Int32) (h : Int32) (hj : j < n) (hn : n ≤ 12) (hf : ¬ f < 0 ∧ ¬ fa j ≤ f) (hh : ¬ rngI h 0 2) : Met l yL_face (tbwH yL_face cL_face 5 (some .int) hh_face) rmL_face_h (xPc D k a B0 w [.ref (a 0), .int (nI j), .int f, .int h]) (va_Qi (roP 2 w) (gB D k a) (gF B0)) 1 6 (gF B0) := by
  have hsX0 := hsX
  obtain ⟨hsP1, hsP2, hsP3, hsP4, hsP5, hsP6, hsP7, hsP8⟩ := hsP
  refine y_ofW (by decide) rfl (fun p e s m args below meth c Q hQ htab hx hb hr hlk hml hown hts hB hG hK hS hXS ls hl => ?_)
  have hl : lv_has ls 5 [(0, .ref (a 0)), (1, .int (nI j)), (2, .int f), (3, .int h)] := hl
  have hown : s.vm.findClass RL = some m.cls := hown
  refine lv_aload_n hx hb dL_face_0 rfl (lv_at hl 0 rfl) ?_
  refine lv_iload_n hx hb dL_face_1 rfl (lv_at hl 1 rfl) ?_
  refine lv_iload_n hx hb dL_face_2 rfl (lv_at hl 2 rfl) ?_
  refine lv_iload_n hx hb dL_face_3 rfl (lv_at hl 3 rfl) ?_
  refine x_VX (i := 0) (As := [.int (nI j), .int f, .int h]) (rest := []) (kX_face_h hl9 hA hsX0 ⟨hsP1, hsP2, hsP3, hsP4, hsP5, hsP6, hsP7, hsP8⟩ j f h hj hn hf hh) calX_face cvX_face mlL_21 hx hb hml hown hts hB hG hK hS hXS (by decide) hsX0 rfl ⟨by decide, by decide⟩ rfl hl.1 rfl (Nat.le_of_ble_eq_true rfl) dL_face_4 ⟨by decide, by decide⟩ (fun ce q9 H locs hG hS hce hcv hcl => ?_)
  refine vx_catch (E := eIAE) (name := eIAE) hown [⟨0, 7, 10, 25⟩] ⟨0, 7, 14, 15⟩ [] (htab.trans rfl) (List.forall_mem_cons.mpr ⟨Or.inr ⟨by decide, eIOB, hts _ clL_25, hXS.2.2.2.2 (eIAE, eIOB) (by decide +kernel)⟩, (fun _ h => nomatch h)⟩) (by decide) (by decide) (hts _ clL_15) (va_Nw.use rfl (hXS.2.2.2.1 (.castable eIAE eIAE) (by decide +kernel))) hce hcv hcl ?_
  refine lv_astore (lv' := [(4, .ref q9), (0, .ref (a 0)), (1, .int (nI j)), (2, .int f), (3, .int h)]) hx hb dL_face_14 hl (by decide) rfl (fun ls hl => ?_)
  refine lv_iconst (v := 2) hx hb dL_face_16 (by decide) ?_
  exact g_iret hQ hx hb hr hlk hG hK hS (by decide) (by decide) ⟨by first | rfl | omega | (simp_all; done) | grind, rfl⟩ dL_face_17

abbrev rmL_modulus_k : Room := { frames := 3, cells := 0, slots := 0, locals := 80 }
set_option maxRecDepth 100000 in
set_option maxHeartbeats 4000000 in
theorem kL_modulus_k {l : Launch} {D : va_G} {k : ClassId × ClassId × ClassId} {a : Nat → Nat} {B0 : Nat} {w : Nat → va_E} (hA : gA B0 a) {n : Nat} {up : Nat → Int64} {lo : Nat → Int64} {fa : Nat → Int32} {we : Nat → Int32} {ti : Nat → Int32} {ri : Nat → Int32} {jo : Nat → Int32} {oo : Nat → Int64} (hsX : sX k a w ) (hsP : sP k a w n up lo fa we ti ri jo) (hsO : sO k a w oo) (j : Nat) (q : Int32) (hj : j < n) (hn : n ≤ 12) (hw : rngI q 0 1) (ht : 0 < lo j) : Met l yL_modulus (tbwH yL_modulus cL_modulus 5 (some .int) hh_modulus) rmL_modulus_k (gPc D k a B0 w [.ref (a 0), .int (nI j), .int q, .ref (a 21)]) (va_Qi (fun rr9 w1 => rr9 = 0 ∧ (sO k a w1 (vp_updL oo 0 (lowT (up j) (lo j) q))) ∧ ∀ z, z < 21 ∨ 21 < z → w1 z = w z) (gB D k a) (gF B0)) 0 0 (gF B0) := by
  have hsX0 := hsX
  obtain ⟨hsP1, hsP2, hsP3, hsP4, hsP5, hsP6, hsP7, hsP8⟩ := hsP
  have hsO21 := hsO
  refine h_ofW (by decide) rfl (fun p e s m args below meth c Q hQ hx hb hr hlk hml hown hts hB hG hK hS ls hl => ?_)
  have hl : lv_has ls 5 [(0, .ref (a 0)), (1, .int (nI j)), (2, .int q), (3, .ref (a 21))] := hl
  have hown : s.vm.findClass RL = some m.cls := hown
  have hfr0 : ∀ z, z < 21 ∨ 21 < z → w z = w z := fun _ _ => rfl
  refine lv_aload_n hx hb dL_modulus_0 rfl (lv_at hl 3 rfl) ?_
  refine lv_iconst (v := 0) hx hb dL_modulus_1 (by decide) ?_
  refine lv_aload_n hx hb dL_modulus_2 rfl (lv_at hl 0 rfl) ?_
  refine lv_iload_n hx hb dL_modulus_3 rfl (lv_at hl 1 rfl) ?_
  refine lv_iload_n hx hb dL_modulus_4 rfl (lv_at hl 2 rfl) ?_
  refine g_VlR (i := 0) (As := [.int (nI j), .int q]) (rest := [.int 0, .ref (a 21)]) (kX_modulus hA hsX0 ⟨hsP1, hsP2, hsP3, hsP4, hsP5, hsP6, hsP7, hsP8⟩ j q hj hn hw ht) calX_modulus cvX_modulus mlL_27 hx hb hml hown hts hB hG hK hS (by decide) hsX0 rfl ⟨by decide, by decide⟩ rfl hl.1 rfl (Nat.le_of_ble_eq_true rfl) dL_modulus_5 ⟨by decide, by decide⟩ (fun H locs hG hS => ?_)
  refine g_last hx hb hK hA hG hS 21 (by decide) hsO21 (j := 0) (by omega) (by decide) dL_modulus_8 (fun H locs hG hS => ?_)
  obtain ⟨w1, hw2⟩ : ∃ zz9, zz9 = va_up w 21 (.inl (k.2.1, 1, .inr (.inl (vp_updL oo 0 (lowT (up j) (lo j) q))))) := ⟨_, rfl⟩
  replace hG : gW D a w1 H := by rw [hw2]; exact hG
  have h3 : w1 0 = .inr (0, [.ref (a 1), .ref (a 9), .ref (a 12), .ref (a 15)]) := by rw [hw2]; exact hsX0
  have h4 : w1 1 = .inr (1, [.ref (a 2), .ref (a 3), .ref (a 4), .ref (a 5), .ref (a 6), .ref (a 7), .ref (a 8), .int (nI n)]) := by rw [hw2]; exact hsP1
  have h5 : w1 2 = .inl (k.2.1, 12, .inr (.inl up)) := by rw [hw2]; exact hsP2
  have h6 : w1 3 = .inl (k.2.1, 12, .inr (.inl lo)) := by rw [hw2]; exact hsP3
  have h7 : w1 4 = .inl (k.1, 12, .inl fa) := by rw [hw2]; exact hsP4
  have h8 : w1 5 = .inl (k.1, 72, .inl we) := by rw [hw2]; exact hsP5
  have h9 : w1 6 = .inl (k.1, 72, .inl ti) := by rw [hw2]; exact hsP6
  have h10 : w1 7 = .inl (k.1, 12, .inl ri) := by rw [hw2]; exact hsP7
  have h11 : w1 8 = .inl (k.2.2, 144, .inl jo) := by rw [hw2]; exact hsP8
  have h12 : w1 21 = .inl (k.2.1, 1, .inr (.inl (vp_updL oo 0 (lowT (up j) (lo j) q)))) := by rw [hw2]; rfl
  have hfr13 : ∀ z, z < 21 ∨ 21 < z → w1 z = w z := fun z hz => by rw [hw2]; exact (va_up_ne _ _ (by omega)).trans (hfr0 z hz)
  refine lv_goto (tgt := 20) hx hb dL_modulus_9 (by decide) ?_
  refine lv_iconst (v := 0) hx hb dL_modulus_20 (by decide) ?_
  exact g_iret hQ hx hb hr hlk hG hK hS (by decide) (by decide) ⟨by first | rfl | omega | (simp_all; done) | grind, h12, hfr13⟩ dL_modulus_21

abbrev rmL_modulus_p : Room := { frames := 8, cells := 1, slots := 6, locals := 125 }
set_option maxRecDepth 100000 in
set_option maxHeartbeats 4000000 in
theorem kL_modulus_p {l : Launch} (hl9 : l.stackTraces = false) {D : va_G} {k : ClassId × ClassId × ClassId} {a : Nat → Nat} {B0 : Nat} {w : Nat → va_E} (hA : gA B0 a) {n : Nat} {up : Nat → Int64} {lo : Nat → Int64} {fa : Nat → Int32} {we : Nat → Int32} {ti : Nat → Int32} {ri : Nat → Int32} {jo : Nat → Int32} (hsX : sX k a w ) (hsP : sP k a w n up lo fa we ti ri jo) (q : Int32) (r : Int32) (hq : ¬ (¬ q < 0 ∧ ¬ nI n ≤ q)) : Met l yL_modulus (tbwH yL_modulus cL_modulus 5 (some .int) hh_modulus) rmL_modulus_p (xPc D k a B0 w [.ref (a 0), .int q, .int r, .ref (a 21)]) (va_Qi (roP 1 w) (gB D k a) (gF B0)) 1 6 (gF B0) := by
  have hsX0 := hsX
  obtain ⟨hsP1, hsP2, hsP3, hsP4, hsP5, hsP6, hsP7, hsP8⟩ := hsP
  refine y_ofW (by decide) rfl (fun p e s m args below meth c Q hQ htab hx hb hr hlk hml hown hts hB hG hK hS hXS ls hl => ?_)
  have hl : lv_has ls 5 [(0, .ref (a 0)), (1, .int q), (2, .int r), (3, .ref (a 21))] := hl
  have hown : s.vm.findClass RL = some m.cls := hown
  refine lv_aload_n hx hb dL_modulus_0 rfl (lv_at hl 3 rfl) ?_
  refine lv_iconst (v := 0) hx hb dL_modulus_1 (by decide) ?_
  refine lv_aload_n hx hb dL_modulus_2 rfl (lv_at hl 0 rfl) ?_
  refine lv_iload_n hx hb dL_modulus_3 rfl (lv_at hl 1 rfl) ?_
  refine lv_iload_n hx hb dL_modulus_4 rfl (lv_at hl 2 rfl) ?_
  refine x_VX (i := 0) (As := [.int q, .int r]) (rest := [.int 0, .ref (a 21)]) (kX_modulus_p hl9 hA hsX0 ⟨hsP1, hsP2, hsP3, hsP4, hsP5, hsP6, hsP7, hsP8⟩ q r hq) calX_modulus cvX_modulus mlL_27 hx hb hml hown hts hB hG hK hS hXS (by decide) hsX0 rfl ⟨by decide, by decide⟩ rfl hl.1 rfl (Nat.le_of_ble_eq_true rfl) dL_modulus_5 ⟨by decide, by decide⟩ (fun ce q9 H locs hG hS hce hcv hcl => ?_)
  refine vx_catch (E := eIOB) (name := eIOB) hown [] ⟨0, 9, 12, 25⟩ [⟨0, 9, 16, 31⟩] (htab.trans rfl) (fun _ h => nomatch h) (by decide) (by decide) (hts _ clL_25) (va_Nw.use rfl (hXS.2.2.2.1 (.castable eIOB eIOB) (by decide +kernel))) hce hcv hcl ?_
  refine lv_astore (lv' := [(4, .ref q9), (0, .ref (a 0)), (1, .int q), (2, .int r), (3, .ref (a 21))]) hx hb dL_modulus_12 hl (by decide) rfl (fun ls hl => ?_)
  refine lv_iconst (v := 1) hx hb dL_modulus_14 (by decide) ?_
  exact g_iret hQ hx hb hr hlk hG hK hS (by decide) (by decide) ⟨by first | rfl | omega | (simp_all; done) | grind, rfl⟩ dL_modulus_15

abbrev rmL_modulus_w : Room := { frames := 8, cells := 1, slots := 6, locals := 125 }
set_option maxRecDepth 100000 in
set_option maxHeartbeats 4000000 in
theorem kL_modulus_w {l : Launch} (hl9 : l.stackTraces = false) {D : va_G} {k : ClassId × ClassId × ClassId} {a : Nat → Nat} {B0 : Nat} {w : Nat → va_E} (hA : gA B0 a) {n : Nat} {up : Nat → Int64} {lo : Nat → Int64} {fa : Nat → Int32} {we : Nat → Int32} {ti : Nat → Int32} {ri : Nat → Int32} {jo : Nat → Int32} (hsX : sX k a w ) (hsP : sP k a w n up lo fa we ti ri jo) (j : Nat) (r : Int32) (hj : j < n) (hn : n ≤ 12) (hw : ¬ rngI r 0 1) : Met l yL_modulus (tbwH yL_modulus cL_modulus 5 (some .int) hh_modulus) rmL_modulus_w (xPc D k a B0 w [.ref (a 0), .int (nI j), .int r, .ref (a 21)]) (va_Qi (roP 1 w) (gB D k a) (gF B0)) 1 6 (gF B0) := by
  have hsX0 := hsX
  obtain ⟨hsP1, hsP2, hsP3, hsP4, hsP5, hsP6, hsP7, hsP8⟩ := hsP
  refine y_ofW (by decide) rfl (fun p e s m args below meth c Q hQ htab hx hb hr hlk hml hown hts hB hG hK hS hXS ls hl => ?_)
  have hl : lv_has ls 5 [(0, .ref (a 0)), (1, .int (nI j)), (2, .int r), (3, .ref (a 21))] := hl
  have hown : s.vm.findClass RL = some m.cls := hown
  refine lv_aload_n hx hb dL_modulus_0 rfl (lv_at hl 3 rfl) ?_
  refine lv_iconst (v := 0) hx hb dL_modulus_1 (by decide) ?_
  refine lv_aload_n hx hb dL_modulus_2 rfl (lv_at hl 0 rfl) ?_
  refine lv_iload_n hx hb dL_modulus_3 rfl (lv_at hl 1 rfl) ?_
  refine lv_iload_n hx hb dL_modulus_4 rfl (lv_at hl 2 rfl) ?_
  refine x_VX (i := 0) (As := [.int (nI j), .int r]) (rest := [.int 0, .ref (a 21)]) (kX_modulus_w hl9 hA hsX0 ⟨hsP1, hsP2, hsP3, hsP4, hsP5, hsP6, hsP7, hsP8⟩ j r hj hn hw) calX_modulus cvX_modulus mlL_27 hx hb hml hown hts hB hG hK hS hXS (by decide) hsX0 rfl ⟨by decide, by decide⟩ rfl hl.1 rfl (Nat.le_of_ble_eq_true rfl) dL_modulus_5 ⟨by decide, by decide⟩ (fun ce q9 H locs hG hS hce hcv hcl => ?_)
  refine vx_catch (E := eIOB) (name := eIOB) hown [] ⟨0, 9, 12, 25⟩ [⟨0, 9, 16, 31⟩] (htab.trans rfl) (fun _ h => nomatch h) (by decide) (by decide) (hts _ clL_25) (va_Nw.use rfl (hXS.2.2.2.1 (.castable eIOB eIOB) (by decide +kernel))) hce hcv hcl ?_
  refine lv_astore (lv' := [(4, .ref q9), (0, .ref (a 0)), (1, .int (nI j)), (2, .int r), (3, .ref (a 21))]) hx hb dL_modulus_12 hl (by decide) rfl (fun ls hl => ?_)
  refine lv_iconst (v := 1) hx hb dL_modulus_14 (by decide) ?_
  exact g_iret hQ hx hb hr hlk hG hK hS (by decide) (by decide) ⟨by first | rfl | omega | (simp_all; done) | grind, rfl⟩ dL_modulus_15

abbrev rmL_modulus_t : Room := { frames := 8, cells := 1, slots := 6, locals := 125 }
set_option maxRecDepth 100000 in
set_option maxHeartbeats 4000000 in
theorem kL_modulus_t {l : Launch} (hl9 : l.stackTraces = false) {D : va_G} {k : ClassId × ClassId × ClassId} {a : Nat → Nat} {B0 : Nat} {w : Nat → va_E} (hA : gA B0 a) {n : Nat} {up : Nat → Int64} {lo : Nat → Int64} {fa : Nat → Int32} {we : Nat → Int32} {ti : Nat → Int32} {ri : Nat → Int32} {jo : Nat → Int32} (hsX : sX k a w ) (hsP : sP k a w n up lo fa we ti ri jo) (j : Nat) (r : Int32) (hj : j < n) (hn : n ≤ 12) (hw : rngI r 0 1) (ht : ¬ 0 < lo j) : Met l yL_modulus (tbwH yL_modulus cL_modulus 5 (some .int) hh_modulus) rmL_modulus_t (xPc D k a B0 w [.ref (a 0), .int (nI j), .int r, .ref (a 21)]) (va_Qi (roP 2 w) (gB D k a) (gF B0)) 1 6 (gF B0) := by
  have hsX0 := hsX
  obtain ⟨hsP1, hsP2, hsP3, hsP4, hsP5, hsP6, hsP7, hsP8⟩ := hsP
  refine y_ofW (by decide) rfl (fun p e s m args below meth c Q hQ htab hx hb hr hlk hml hown hts hB hG hK hS hXS ls hl => ?_)
  have hl : lv_has ls 5 [(0, .ref (a 0)), (1, .int (nI j)), (2, .int r), (3, .ref (a 21))] := hl
  have hown : s.vm.findClass RL = some m.cls := hown
  refine lv_aload_n hx hb dL_modulus_0 rfl (lv_at hl 3 rfl) ?_
  refine lv_iconst (v := 0) hx hb dL_modulus_1 (by decide) ?_
  refine lv_aload_n hx hb dL_modulus_2 rfl (lv_at hl 0 rfl) ?_
  refine lv_iload_n hx hb dL_modulus_3 rfl (lv_at hl 1 rfl) ?_
  refine lv_iload_n hx hb dL_modulus_4 rfl (lv_at hl 2 rfl) ?_
  refine x_VX (i := 0) (As := [.int (nI j), .int r]) (rest := [.int 0, .ref (a 21)]) (kX_modulus_t hl9 hA hsX0 ⟨hsP1, hsP2, hsP3, hsP4, hsP5, hsP6, hsP7, hsP8⟩ j r hj hn hw ht) calX_modulus cvX_modulus mlL_27 hx hb hml hown hts hB hG hK hS hXS (by decide) hsX0 rfl ⟨by decide, by decide⟩ rfl hl.1 rfl (Nat.le_of_ble_eq_true rfl) dL_modulus_5 ⟨by decide, by decide⟩ (fun ce q9 H locs hG hS hce hcv hcl => ?_)
  refine vx_catch (E := eUOE) (name := eUOE) hown [⟨0, 9, 12, 25⟩] ⟨0, 9, 16, 31⟩ [] (htab.trans rfl) (List.forall_mem_cons.mpr ⟨Or.inr ⟨by decide, eIOB, hts _ clL_25, hXS.2.2.2.2 (eUOE, eIOB) (by decide +kernel)⟩, (fun _ h => nomatch h)⟩) (by decide) (by decide) (hts _ clL_31) (va_Nw.use rfl (hXS.2.2.2.1 (.castable eUOE eUOE) (by decide +kernel))) hce hcv hcl ?_
  refine lv_astore (lv' := [(4, .ref q9), (0, .ref (a 0)), (1, .int (nI j)), (2, .int r), (3, .ref (a 21))]) hx hb dL_modulus_16 hl (by decide) rfl (fun ls hl => ?_)
  refine lv_iconst (v := 2) hx hb dL_modulus_18 (by decide) ?_
  exact g_iret hQ hx hb hr hlk hG hK hS (by decide) (by decide) ⟨by first | rfl | omega | (simp_all; done) | grind, rfl⟩ dL_modulus_19

abbrev rmL_join_k : Room := { frames := 3, cells := 0, slots := 0, locals := 65 }
set_option maxRecDepth 100000 in
set_option maxHeartbeats 4000000 in
theorem kL_join_k {l : Launch} {D : va_G} {k : ClassId × ClassId × ClassId} {a : Nat → Nat} {B0 : Nat} {w : Nat → va_E} (hA : gA B0 a) {n : Nat} {up : Nat → Int64} {lo : Nat → Int64} {fa : Nat → Int32} {we : Nat → Int32} {ti : Nat → Int32} {ri : Nat → Int32} {jo : Nat → Int32} (hsX : sX k a w ) (hsP : sP k a w n up lo fa we ti ri jo) (j : Nat) (i : Nat) (P : Prop) (hj : j < n) (hn : n ≤ 12) (hi : i < n) (hji : ¬ j = i) (hjo : ∀ z, z < 144 → narrow .boolean (.int (jo z)) = .int (jo z)) (hne : ¬ jo (j * 12 + i) = b2i P) : Met l yL_join (tbwH yL_join cL_join 5 (some .int) hh_join) rmL_join_k (gPc D k a B0 w [.ref (a 0), .int (nI j), .int (nI i), .int (b2i P)]) (va_Qi (fun rr9 w1 => rr9 = 0 ∧ (sP k a w1 n up lo fa we ti ri (upd (upd jo (j * 12 + i) (b2i P)) (i * 12 + j) (b2i P))) ∧ ∀ z, z < 1 ∨ 8 < z → w1 z = w z) (gB D k a) (gF B0)) 0 0 (gF B0) := by
  have hsX0 := hsX
  obtain ⟨hsP1, hsP2, hsP3, hsP4, hsP5, hsP6, hsP7, hsP8⟩ := hsP
  refine h_ofW (by decide) rfl (fun p e s m args below meth c Q hQ hx hb hr hlk hml hown hts hB hG hK hS ls hl => ?_)
  have hl : lv_has ls 5 [(0, .ref (a 0)), (1, .int (nI j)), (2, .int (nI i)), (3, .int (b2i P))] := hl
  have hown : s.vm.findClass RL = some m.cls := hown
  have hfr0 : ∀ z, z < 1 ∨ 8 < z → w z = w z := fun _ _ => rfl
  refine lv_aload_n hx hb dL_join_0 rfl (lv_at hl 0 rfl) ?_
  refine lv_iload_n hx hb dL_join_1 rfl (lv_at hl 1 rfl) ?_
  refine lv_iload_n hx hb dL_join_2 rfl (lv_at hl 2 rfl) ?_
  refine lv_iload_n hx hb dL_join_3 rfl (lv_at hl 3 rfl) ?_
  refine g_Vv (i := 0) (As := [.int (nI j), .int (nI i), .int (b2i P)]) (rest := []) (kX_join hA hsX0 ⟨hsP1, hsP2, hsP3, hsP4, hsP5, hsP6, hsP7, hsP8⟩ j i P hj hn hi hji hjo hne) calX_join cvX_join mlL_33 hx hb hml hown hts hB hG hK hS (by decide) hsX0 rfl ⟨by decide, by decide⟩ rfl hl.1 rfl (Nat.le_of_ble_eq_true rfl) dL_join_4 ⟨by decide, by decide⟩ (fun w2 H locs hp3 hG hS => ?_)
  obtain ⟨⟨h4, h5, h6, h7, h8, h9, h10, h11⟩, hfr13⟩ := hp3
  have h14 : w2 0 = .inr (0, [.ref (a 1), .ref (a 9), .ref (a 12), .ref (a 15)]) := (hfr13 0 (by omega)).trans hsX0
  have hfr15 : ∀ z, z < 1 ∨ 8 < z → w2 z = w z := fun z hz => (hfr13 z (by omega)).trans (hfr0 z hz)
  refine lv_goto (tgt := 18) hx hb dL_join_7 (by decide) ?_
  refine lv_iconst (v := 0) hx hb dL_join_18 (by decide) ?_
  exact g_iret hQ hx hb hr hlk hG hK hS (by decide) (by decide) ⟨by first | rfl | omega | (simp_all; done) | grind, ⟨h4, h5, h6, h7, h8, h9, h10, h11⟩, hfr15⟩ dL_join_19

abbrev rmL_join_p : Room := { frames := 8, cells := 1, slots := 6, locals := 126 }
set_option maxRecDepth 100000 in
set_option maxHeartbeats 4000000 in
theorem kL_join_p {l : Launch} (hl9 : l.stackTraces = false) {D : va_G} {k : ClassId × ClassId × ClassId} {a : Nat → Nat} {B0 : Nat} {w : Nat → va_E} (hA : gA B0 a) {n : Nat} {up : Nat → Int64} {lo : Nat → Int64} {fa : Nat → Int32} {we : Nat → Int32} {ti : Nat → Int32} {ri : Nat → Int32} {jo : Nat → Int32} (hsX : sX k a w ) (hsP : sP k a w n up lo fa we ti ri jo) (q : Int32) (r : Int32) (P : Prop) (hq : ¬ (¬ q < 0 ∧ ¬ nI n ≤ q)) : Met l yL_join (tbwH yL_join cL_join 5 (some .int) hh_join) rmL_join_p (xPc D k a B0 w [.ref (a 0), .int q, .int r, .int (b2i P)]) (va_Qi (roP 1 w) (gB D k a) (gF B0)) 1 6 (gF B0) := by
  have hsX0 := hsX
  obtain ⟨hsP1, hsP2, hsP3, hsP4, hsP5, hsP6, hsP7, hsP8⟩ := hsP
  refine y_ofW (by decide) rfl (fun p e s m args below meth c Q hQ htab hx hb hr hlk hml hown hts hB hG hK hS hXS ls hl => ?_)
  have hl : lv_has ls 5 [(0, .ref (a 0)), (1, .int q), (2, .int r), (3, .int (b2i P))] := hl
  have hown : s.vm.findClass RL = some m.cls := hown
  refine lv_aload_n hx hb dL_join_0 rfl (lv_at hl 0 rfl) ?_
  refine lv_iload_n hx hb dL_join_1 rfl (lv_at hl 1 rfl) ?_
  refine lv_iload_n hx hb dL_join_2 rfl (lv_at hl 2 rfl) ?_
  refine lv_iload_n hx hb dL_join_3 rfl (lv_at hl 3 rfl) ?_
  refine x_VX (i := 0) (As := [.int q, .int r, .int (b2i P)]) (rest := []) (kX_join_p hl9 hA hsX0 ⟨hsP1, hsP2, hsP3, hsP4, hsP5, hsP6, hsP7, hsP8⟩ q r P hq) calX_join cvX_join mlL_33 hx hb hml hown hts hB hG hK hS hXS (by decide) hsX0 rfl ⟨by decide, by decide⟩ rfl hl.1 rfl (Nat.le_of_ble_eq_true rfl) dL_join_4 ⟨by decide, by decide⟩ (fun ce q9 H locs hG hS hce hcv hcl => ?_)
  refine vx_catch (E := eIOB) (name := eIOB) hown [] ⟨0, 7, 10, 25⟩ [⟨0, 7, 14, 13⟩] (htab.trans rfl) (fun _ h => nomatch h) (by decide) (by decide) (hts _ clL_25) (va_Nw.use rfl (hXS.2.2.2.1 (.castable eIOB eIOB) (by decide +kernel))) hce hcv hcl ?_
  refine lv_astore (lv' := [(4, .ref q9), (0, .ref (a 0)), (1, .int q), (2, .int r), (3, .int (b2i P))]) hx hb dL_join_10 hl (by decide) rfl (fun ls hl => ?_)
  refine lv_iconst (v := 1) hx hb dL_join_12 (by decide) ?_
  exact g_iret hQ hx hb hr hlk hG hK hS (by decide) (by decide) ⟨by first | rfl | omega | (simp_all; done) | grind, rfl⟩ dL_join_13

abbrev rmL_join_r : Room := { frames := 8, cells := 1, slots := 6, locals := 126 }
set_option maxRecDepth 100000 in
set_option maxHeartbeats 4000000 in
theorem kL_join_r {l : Launch} (hl9 : l.stackTraces = false) {D : va_G} {k : ClassId × ClassId × ClassId} {a : Nat → Nat} {B0 : Nat} {w : Nat → va_E} (hA : gA B0 a) {n : Nat} {up : Nat → Int64} {lo : Nat → Int64} {fa : Nat → Int32} {we : Nat → Int32} {ti : Nat → Int32} {ri : Nat → Int32} {jo : Nat → Int32} (hsX : sX k a w ) (hsP : sP k a w n up lo fa we ti ri jo) (j : Nat) (q : Int32) (P : Prop) (hj : j < n) (hn : n ≤ 12) (hq : ¬ (¬ q < 0 ∧ ¬ nI n ≤ q)) : Met l yL_join (tbwH yL_join cL_join 5 (some .int) hh_join) rmL_join_r (xPc D k a B0 w [.ref (a 0), .int (nI j), .int q, .int (b2i P)]) (va_Qi (roP 1 w) (gB D k a) (gF B0)) 1 6 (gF B0) := by
  have hsX0 := hsX
  obtain ⟨hsP1, hsP2, hsP3, hsP4, hsP5, hsP6, hsP7, hsP8⟩ := hsP
  refine y_ofW (by decide) rfl (fun p e s m args below meth c Q hQ htab hx hb hr hlk hml hown hts hB hG hK hS hXS ls hl => ?_)
  have hl : lv_has ls 5 [(0, .ref (a 0)), (1, .int (nI j)), (2, .int q), (3, .int (b2i P))] := hl
  have hown : s.vm.findClass RL = some m.cls := hown
  refine lv_aload_n hx hb dL_join_0 rfl (lv_at hl 0 rfl) ?_
  refine lv_iload_n hx hb dL_join_1 rfl (lv_at hl 1 rfl) ?_
  refine lv_iload_n hx hb dL_join_2 rfl (lv_at hl 2 rfl) ?_
  refine lv_iload_n hx hb dL_join_3 rfl (lv_at hl 3 rfl) ?_
  refine x_VX (i := 0) (As := [.int (nI j), .int q, .int (b2i P)]) (rest := []) (kX_join_r hl9 hA hsX0 ⟨hsP1, hsP2, hsP3, hsP4, hsP5, hsP6, hsP7, hsP8⟩ j q P hj hn hq) calX_join cvX_join mlL_33 hx hb hml hown hts hB hG hK hS hXS (by decide) hsX0 rfl ⟨by decide, by decide⟩ rfl hl.1 rfl (Nat.le_of_ble_eq_true rfl) dL_join_4 ⟨by decide, by decide⟩ (fun ce q9 H locs hG hS hce hcv hcl => ?_)
  refine vx_catch (E := eIOB) (name := eIOB) hown [] ⟨0, 7, 10, 25⟩ [⟨0, 7, 14, 13⟩] (htab.trans rfl) (fun _ h => nomatch h) (by decide) (by decide) (hts _ clL_25) (va_Nw.use rfl (hXS.2.2.2.1 (.castable eIOB eIOB) (by decide +kernel))) hce hcv hcl ?_
  refine lv_astore (lv' := [(4, .ref q9), (0, .ref (a 0)), (1, .int (nI j)), (2, .int q), (3, .int (b2i P))]) hx hb dL_join_10 hl (by decide) rfl (fun ls hl => ?_)
  refine lv_iconst (v := 1) hx hb dL_join_12 (by decide) ?_
  exact g_iret hQ hx hb hr hlk hG hK hS (by decide) (by decide) ⟨by first | rfl | omega | (simp_all; done) | grind, rfl⟩ dL_join_13

abbrev rmL_join_s : Room := { frames := 8, cells := 1, slots := 6, locals := 126 }
set_option maxRecDepth 100000 in
set_option maxHeartbeats 4000000 in
theorem kL_join_s {l : Launch} (hl9 : l.stackTraces = false) {D : va_G} {k : ClassId × ClassId × ClassId} {a : Nat → Nat} {B0 : Nat} {w : Nat → va_E} (hA : gA B0 a) {n : Nat} {up : Nat → Int64} {lo : Nat → Int64} {fa : Nat → Int32} {we : Nat → Int32} {ti : Nat → Int32} {ri : Nat → Int32} {jo : Nat → Int32} (hsX : sX k a w ) (hsP : sP k a w n up lo fa we ti ri jo) (j : Nat) (i : Nat) (P : Prop) (hj : j < n) (hn : n ≤ 12) (hi : i < n) (hji : j = i) : Met l yL_join (tbwH yL_join cL_join 5 (some .int) hh_join) rmL_join_s (xPc D k a B0 w [.ref (a 0), .int (nI j), .int (nI i), .int (b2i P)]) (va_Qi (roP 1 w) (gB D k a) (gF B0)) 1 6 (gF B0) := by
  have hsX0 := hsX
  obtain ⟨hsP1, hsP2, hsP3, hsP4, hsP5, hsP6, hsP7, hsP8⟩ := hsP
  refine y_ofW (by decide) rfl (fun p e s m args below meth c Q hQ htab hx hb hr hlk hml hown hts hB hG hK hS hXS ls hl => ?_)
  have hl : lv_has ls 5 [(0, .ref (a 0)), (1, .int (nI j)), (2, .int (nI i)), (3, .int (b2i P))] := hl
  have hown : s.vm.findClass RL = some m.cls := hown
  refine lv_aload_n hx hb dL_join_0 rfl (lv_at hl 0 rfl) ?_
  refine lv_iload_n hx hb dL_join_1 rfl (lv_at hl 1 rfl) ?_
  refine lv_iload_n hx hb dL_join_2 rfl (lv_at hl 2 rfl) ?_
  refine lv_iload_n hx hb dL_join_3 rfl (lv_at hl 3 rfl) ?_
  refine x_VX (i := 0) (As := [.int (nI j), .int (nI i), .int (b2i P)]) (rest := []) (kX_join_s hl9 hA hsX0 ⟨hsP1, hsP2, hsP3, hsP4, hsP5, hsP6, hsP7, hsP8⟩ j i P hj hn hi hji) calX_join cvX_join mlL_33 hx hb hml hown hts hB hG hK hS hXS (by decide) hsX0 rfl ⟨by decide, by decide⟩ rfl hl.1 rfl (Nat.le_of_ble_eq_true rfl) dL_join_4 ⟨by decide, by decide⟩ (fun ce q9 H locs hG hS hce hcv hcl => ?_)
  refine vx_catch (E := eIOB) (name := eIOB) hown [] ⟨0, 7, 10, 25⟩ [⟨0, 7, 14, 13⟩] (htab.trans rfl) (fun _ h => nomatch h) (by decide) (by decide) (hts _ clL_25) (va_Nw.use rfl (hXS.2.2.2.1 (.castable eIOB eIOB) (by decide +kernel))) hce hcv hcl ?_
  refine lv_astore (lv' := [(4, .ref q9), (0, .ref (a 0)), (1, .int (nI j)), (2, .int (nI i)), (3, .int (b2i P))]) hx hb dL_join_10 hl (by decide) rfl (fun ls hl => ?_)
  refine lv_iconst (v := 1) hx hb dL_join_12 (by decide) ?_
  exact g_iret hQ hx hb hr hlk hG hK hS (by decide) (by decide) ⟨by first | rfl | omega | (simp_all; done) | grind, rfl⟩ dL_join_13

abbrev rmL_join_e : Room := { frames := 8, cells := 1, slots := 6, locals := 126 }
set_option maxRecDepth 100000 in
set_option maxHeartbeats 4000000 in
theorem kL_join_e {l : Launch} (hl9 : l.stackTraces = false) {D : va_G} {k : ClassId × ClassId × ClassId} {a : Nat → Nat} {B0 : Nat} {w : Nat → va_E} (hA : gA B0 a) {n : Nat} {up : Nat → Int64} {lo : Nat → Int64} {fa : Nat → Int32} {we : Nat → Int32} {ti : Nat → Int32} {ri : Nat → Int32} {jo : Nat → Int32} (hsX : sX k a w ) (hsP : sP k a w n up lo fa we ti ri jo) (j : Nat) (i : Nat) (P : Prop) (hj : j < n) (hn : n ≤ 12) (hi : i < n) (hji : ¬ j = i) (hjo : ∀ z, z < 144 → narrow .boolean (.int (jo z)) = .int (jo z)) (he : jo (j * 12 + i) = b2i P) : Met l yL_join (tbwH yL_join cL_join 5 (some .int) hh_join) rmL_join_e (xPc D k a B0 w [.ref (a 0), .int (nI j), .int (nI i), .int (b2i P)]) (va_Qi (roP 2 w) (gB D k a) (gF B0)) 1 6 (gF B0) := by
  have hsX0 := hsX
  obtain ⟨hsP1, hsP2, hsP3, hsP4, hsP5, hsP6, hsP7, hsP8⟩ := hsP
  refine y_ofW (by decide) rfl (fun p e s m args below meth c Q hQ htab hx hb hr hlk hml hown hts hB hG hK hS hXS ls hl => ?_)
  have hl : lv_has ls 5 [(0, .ref (a 0)), (1, .int (nI j)), (2, .int (nI i)), (3, .int (b2i P))] := hl
  have hown : s.vm.findClass RL = some m.cls := hown
  refine lv_aload_n hx hb dL_join_0 rfl (lv_at hl 0 rfl) ?_
  refine lv_iload_n hx hb dL_join_1 rfl (lv_at hl 1 rfl) ?_
  refine lv_iload_n hx hb dL_join_2 rfl (lv_at hl 2 rfl) ?_
  refine lv_iload_n hx hb dL_join_3 rfl (lv_at hl 3 rfl) ?_
  refine x_VX (i := 0) (As := [.int (nI j), .int (nI i), .int (b2i P)]) (rest := []) (kX_join_e hl9 hA hsX0 ⟨hsP1, hsP2, hsP3, hsP4, hsP5, hsP6, hsP7, hsP8⟩ j i P hj hn hi hji hjo he) calX_join cvX_join mlL_33 hx hb hml hown hts hB hG hK hS hXS (by decide) hsX0 rfl ⟨by decide, by decide⟩ rfl hl.1 rfl (Nat.le_of_ble_eq_true rfl) dL_join_4 ⟨by decide, by decide⟩ (fun ce q9 H locs hG hS hce hcv hcl => ?_)
  refine vx_catch (E := eISE) (name := eISE) hown [⟨0, 7, 10, 25⟩] ⟨0, 7, 14, 13⟩ [] (htab.trans rfl) (List.forall_mem_cons.mpr ⟨Or.inr ⟨by decide, eIOB, hts _ clL_25, hXS.2.2.2.2 (eISE, eIOB) (by decide +kernel)⟩, (fun _ h => nomatch h)⟩) (by decide) (by decide) (hts _ clL_13) (va_Nw.use rfl (hXS.2.2.2.1 (.castable eISE eISE) (by decide +kernel))) hce hcv hcl ?_
  refine lv_astore (lv' := [(4, .ref q9), (0, .ref (a 0)), (1, .int (nI j)), (2, .int (nI i)), (3, .int (b2i P))]) hx hb dL_join_14 hl (by decide) rfl (fun ls hl => ?_)
  refine lv_iconst (v := 2) hx hb dL_join_16 (by decide) ?_
  exact g_iret hQ hx hb hr hlk hG hK hS (by decide) (by decide) ⟨by first | rfl | omega | (simp_all; done) | grind, rfl⟩ dL_join_17

abbrev rmL_order_k : Room := { frames := 5, cells := 0, slots := 0, locals := 113 }
set_option maxRecDepth 100000 in
set_option maxHeartbeats 4000000 in
theorem kL_order_k {l : Launch} {D : va_G} {k : ClassId × ClassId × ClassId} {a : Nat → Nat} {B0 : Nat} {w : Nat → va_E} (hA : gA B0 a) {n : Nat} {up : Nat → Int64} {lo : Nat → Int64} {fa : Nat → Int32} {we : Nat → Int32} {ti : Nat → Int32} {ri : Nat → Int32} {jo : Nat → Int32} {oo : Nat → Int64} (hsX : sX k a w ) (hsP : sP k a w n up lo fa we ti ri jo) (hsO : sO k a w oo) (q : Int32) (hq : ¬ q < 0) (hn : n ≤ 12) : Met l yL_order (tbwH yL_order cL_order 4 (some .int) hh_order) rmL_order_k (gPc D k a B0 w [.ref (a 0), .int q, .ref (a 21)]) (va_Qi (fun rr9 w1 => rr9 = 0 ∧ (sO k a w1 (vp_updL oo 0 ((fstF (rOrdP up lo n q) n 0).toInt64))) ∧ ∀ z, z < 21 ∨ 21 < z → w1 z = w z) (gB D k a) (gF B0)) 0 0 (gF B0) := by
  have hsX0 := hsX
  obtain ⟨hsP1, hsP2, hsP3, hsP4, hsP5, hsP6, hsP7, hsP8⟩ := hsP
  have hsO21 := hsO
  refine h_ofW (by decide) rfl (fun p e s m args below meth c Q hQ hx hb hr hlk hml hown hts hB hG hK hS ls hl => ?_)
  have hl : lv_has ls 4 [(0, .ref (a 0)), (1, .int q), (2, .ref (a 21))] := hl
  have hown : s.vm.findClass RL = some m.cls := hown
  have hfr0 : ∀ z, z < 21 ∨ 21 < z → w z = w z := fun _ _ => rfl
  refine lv_aload_n hx hb dL_order_0 rfl (lv_at hl 2 rfl) ?_
  refine lv_iconst (v := 0) hx hb dL_order_1 (by decide) ?_
  refine lv_aload_n hx hb dL_order_2 rfl (lv_at hl 0 rfl) ?_
  refine lv_iload_n hx hb dL_order_3 rfl (lv_at hl 1 rfl) ?_
  refine g_ViR (i := 0) (As := [.int q]) (rest := [.int 0, .ref (a 21)]) (kX_order hA hsX0 ⟨hsP1, hsP2, hsP3, hsP4, hsP5, hsP6, hsP7, hsP8⟩ q hq hn) calX_order cvX_order mlL_37 hx hb hml hown hts hB hG hK hS (by decide) hsX0 rfl ⟨by decide, by decide⟩ rfl hl.1 rfl (Nat.le_of_ble_eq_true rfl) dL_order_4 ⟨by decide, by decide⟩ (fun H locs hG hS => ?_)
  refine lv_i2l hx hb dL_order_7 rfl ?_
  refine g_last hx hb hK hA hG hS 21 (by decide) hsO21 (j := 0) (by omega) (by decide) dL_order_8 (fun H locs hG hS => ?_)
  obtain ⟨w1, hw2⟩ : ∃ zz9, zz9 = va_up w 21 (.inl (k.2.1, 1, .inr (.inl (vp_updL oo 0 ((fstF (rOrdP up lo n q) n 0).toInt64))))) := ⟨_, rfl⟩
  replace hG : gW D a w1 H := by rw [hw2]; exact hG
  have h3 : w1 0 = .inr (0, [.ref (a 1), .ref (a 9), .ref (a 12), .ref (a 15)]) := by rw [hw2]; exact hsX0
  have h4 : w1 1 = .inr (1, [.ref (a 2), .ref (a 3), .ref (a 4), .ref (a 5), .ref (a 6), .ref (a 7), .ref (a 8), .int (nI n)]) := by rw [hw2]; exact hsP1
  have h5 : w1 2 = .inl (k.2.1, 12, .inr (.inl up)) := by rw [hw2]; exact hsP2
  have h6 : w1 3 = .inl (k.2.1, 12, .inr (.inl lo)) := by rw [hw2]; exact hsP3
  have h7 : w1 4 = .inl (k.1, 12, .inl fa) := by rw [hw2]; exact hsP4
  have h8 : w1 5 = .inl (k.1, 72, .inl we) := by rw [hw2]; exact hsP5
  have h9 : w1 6 = .inl (k.1, 72, .inl ti) := by rw [hw2]; exact hsP6
  have h10 : w1 7 = .inl (k.1, 12, .inl ri) := by rw [hw2]; exact hsP7
  have h11 : w1 8 = .inl (k.2.2, 144, .inl jo) := by rw [hw2]; exact hsP8
  have h12 : w1 21 = .inl (k.2.1, 1, .inr (.inl (vp_updL oo 0 ((fstF (rOrdP up lo n q) n 0).toInt64)))) := by rw [hw2]; rfl
  have hfr13 : ∀ z, z < 21 ∨ 21 < z → w1 z = w z := fun z hz => by rw [hw2]; exact (va_up_ne _ _ (by omega)).trans (hfr0 z hz)
  refine lv_goto (tgt := 15) hx hb dL_order_9 (by decide) ?_
  refine lv_iconst (v := 0) hx hb dL_order_15 (by decide) ?_
  exact g_iret hQ hx hb hr hlk hG hK hS (by decide) (by decide) ⟨by first | rfl | omega | (simp_all; done) | grind, h12, hfr13⟩ dL_order_16

abbrev rmL_order_z : Room := { frames := 8, cells := 1, slots := 6, locals := 124 }
set_option maxRecDepth 100000 in
set_option maxHeartbeats 4000000 in
theorem kL_order_z {l : Launch} (hl9 : l.stackTraces = false) {D : va_G} {k : ClassId × ClassId × ClassId} {a : Nat → Nat} {B0 : Nat} {w : Nat → va_E} (hA : gA B0 a) {n : Nat} {up : Nat → Int64} {lo : Nat → Int64} {fa : Nat → Int32} {we : Nat → Int32} {ti : Nat → Int32} {ri : Nat → Int32} {jo : Nat → Int32} (hsX : sX k a w ) (hsP : sP k a w n up lo fa we ti ri jo) (q : Int32) (hq : q < 0) : Met l yL_order (tbwH yL_order cL_order 4 (some .int) hh_order) rmL_order_z (xPc D k a B0 w [.ref (a 0), .int q, .ref (a 21)]) (va_Qi (roP 1 w) (gB D k a) (gF B0)) 1 6 (gF B0) := by
  have hsX0 := hsX
  obtain ⟨hsP1, hsP2, hsP3, hsP4, hsP5, hsP6, hsP7, hsP8⟩ := hsP
  refine y_ofW (by decide) rfl (fun p e s m args below meth c Q hQ htab hx hb hr hlk hml hown hts hB hG hK hS hXS ls hl => ?_)
  have hl : lv_has ls 4 [(0, .ref (a 0)), (1, .int q), (2, .ref (a 21))] := hl
  have hown : s.vm.findClass RL = some m.cls := hown
  refine lv_aload_n hx hb dL_order_0 rfl (lv_at hl 2 rfl) ?_
  refine lv_iconst (v := 0) hx hb dL_order_1 (by decide) ?_
  refine lv_aload_n hx hb dL_order_2 rfl (lv_at hl 0 rfl) ?_
  refine lv_iload_n hx hb dL_order_3 rfl (lv_at hl 1 rfl) ?_
  refine x_VX (i := 0) (As := [.int q]) (rest := [.int 0, .ref (a 21)]) (kX_order_z hl9 hA hsX0 ⟨hsP1, hsP2, hsP3, hsP4, hsP5, hsP6, hsP7, hsP8⟩ q hq) calX_order cvX_order mlL_37 hx hb hml hown hts hB hG hK hS hXS (by decide) hsX0 rfl ⟨by decide, by decide⟩ rfl hl.1 rfl (Nat.le_of_ble_eq_true rfl) dL_order_4 ⟨by decide, by decide⟩ (fun ce q9 H locs hG hS hce hcv hcl => ?_)
  refine vx_catch (E := eIOB) (name := eIOB) hown [] ⟨0, 9, 12, 25⟩ [] (htab.trans rfl) (fun _ h => nomatch h) (by decide) (by decide) (hts _ clL_25) (va_Nw.use rfl (hXS.2.2.2.1 (.castable eIOB eIOB) (by decide +kernel))) hce hcv hcl ?_
  refine lv_astore_n (lv' := [(3, .ref q9), (0, .ref (a 0)), (1, .int q), (2, .ref (a 21))]) hx hb dL_order_12 rfl hl (by decide) rfl (fun ls hl => ?_)
  refine lv_iconst (v := 1) hx hb dL_order_13 (by decide) ?_
  exact g_iret hQ hx hb hr hlk hG hK hS (by decide) (by decide) ⟨by first | rfl | omega | (simp_all; done) | grind, rfl⟩ dL_order_14

abbrev rmL_riserRow_k : Room := { frames := 2, cells := 0, slots := 0, locals := 44 }
set_option maxRecDepth 100000 in
set_option maxHeartbeats 4000000 in
theorem kL_riserRow_k {l : Launch} {D : va_G} {k : ClassId × ClassId × ClassId} {a : Nat → Nat} {B0 : Nat} {w : Nat → va_E} (hA : gA B0 a) {nr : Nat} {ru : Nat → Int64} {rl : Nat → Int64} {oo : Nat → Int64} (hsX : sX k a w ) (hsR : sR k a w nr ru rl) (hsO : sO k a w oo) (x : Int32) (y : Int32) (hn : nr < 8) (h1 : szR x) (h2 : szR y) : Met l yL_riserRow (tbwH yL_riserRow cL_riserRow 5 (some .int) hh_riserRow) rmL_riserRow_k (gPc D k a B0 w [.ref (a 0), .int x, .int y, .ref (a 21)]) (va_Qi (fun rr9 w1 => rr9 = 0 ∧ (sR k a w1 (nr + 1) (vp_updL ru nr (x.toInt64 * y.toInt64)) (vp_updL rl nr (4 * y.toInt64 + x.toInt64))) ∧ (sO k a w1 (vp_updL oo 0 ((nI (nr + 1)).toInt64))) ∧ ∀ z, (z < 9 ∨ 11 < z) ∧ z ≠ 21 → w1 z = w z) (gB D k a) (gF B0)) 0 0 (gF B0) := by
  have hsX0 := hsX
  obtain ⟨hsR9, hsR10, hsR11⟩ := hsR
  have hsO21 := hsO
  refine h_ofW (by decide) rfl (fun p e s m args below meth c Q hQ hx hb hr hlk hml hown hts hB hG hK hS ls hl => ?_)
  have hl : lv_has ls 5 [(0, .ref (a 0)), (1, .int x), (2, .int y), (3, .ref (a 21))] := hl
  have hown : s.vm.findClass RL = some m.cls := hown
  have hfr0 : ∀ z, (z < 9 ∨ 11 < z) ∧ z ≠ 21 → w z = w z := fun _ _ => rfl
  refine lv_aload_n hx hb dL_riserRow_0 rfl (lv_at hl 3 rfl) ?_
  refine lv_iconst (v := 0) hx hb dL_riserRow_1 (by decide) ?_
  refine lv_aload_n hx hb dL_riserRow_2 rfl (lv_at hl 0 rfl) ?_
  refine lv_iload_n hx hb dL_riserRow_3 rfl (lv_at hl 1 rfl) ?_
  refine lv_iload_n hx hb dL_riserRow_4 rfl (lv_at hl 2 rfl) ?_
  refine g_Vi (i := 0) (As := [.int x, .int y]) (rest := [.int 0, .ref (a 21)]) (kX_riserRow hA hsX0 ⟨hsR9, hsR10, hsR11⟩ x y hn h1 h2) calX_riserRow cvX_riserRow mlL_41 hx hb hml hown hts hB hG hK hS (by decide) hsX0 rfl ⟨by decide, by decide⟩ rfl hl.1 rfl (Nat.le_of_ble_eq_true rfl) dL_riserRow_5 ⟨by decide, by decide⟩ (fun r1 w2 H locs hp3 hG hS => ?_)
  obtain ⟨er7, ⟨h4, h5, h6⟩, hfr8⟩ := hp3
  have h9 : w2 0 = .inr (0, [.ref (a 1), .ref (a 9), .ref (a 12), .ref (a 15)]) := (hfr8 0 (by omega)).trans hsX0
  have h10 : w2 21 = .inl (k.2.1, 1, .inr (.inl oo)) := (hfr8 21 (by omega)).trans hsO21
  have hfr11 : ∀ z, (z < 9 ∨ 11 < z) ∧ z ≠ 21 → w2 z = w z := fun z hz => (hfr8 z (by omega)).trans (hfr0 z hz)
  rw [er7]
  refine lv_i2l hx hb dL_riserRow_8 rfl ?_
  refine g_last hx hb hK hA hG hS 21 (by decide) h10 (j := 0) (by omega) (by decide) dL_riserRow_9 (fun H locs hG hS => ?_)
  obtain ⟨w12, hw13⟩ : ∃ zz9, zz9 = va_up w2 21 (.inl (k.2.1, 1, .inr (.inl (vp_updL oo 0 ((nI (nr + 1)).toInt64))))) := ⟨_, rfl⟩
  replace hG : gW D a w12 H := by rw [hw13]; exact hG
  have h14 : w12 0 = .inr (0, [.ref (a 1), .ref (a 9), .ref (a 12), .ref (a 15)]) := by rw [hw13]; exact h9
  have h15 : w12 9 = .inr (2, [.ref (a 10), .ref (a 11), .int (nI (nr + 1))]) := by rw [hw13]; exact h4
  have h16 : w12 10 = .inl (k.2.1, 8, .inr (.inl (vp_updL ru nr (x.toInt64 * y.toInt64)))) := by rw [hw13]; exact h5
  have h17 : w12 11 = .inl (k.2.1, 8, .inr (.inl (vp_updL rl nr (4 * y.toInt64 + x.toInt64)))) := by rw [hw13]; exact h6
  have h18 : w12 21 = .inl (k.2.1, 1, .inr (.inl (vp_updL oo 0 ((nI (nr + 1)).toInt64)))) := by rw [hw13]; rfl
  have hfr19 : ∀ z, (z < 9 ∨ 11 < z) ∧ z ≠ 21 → w12 z = w z := fun z hz => by rw [hw13]; exact (va_up_ne _ _ (by omega)).trans (hfr11 z hz)
  refine lv_goto (tgt := 21) hx hb dL_riserRow_10 (by decide) ?_
  refine lv_iconst (v := 0) hx hb dL_riserRow_21 (by decide) ?_
  exact g_iret hQ hx hb hr hlk hG hK hS (by decide) (by decide) ⟨by first | rfl | omega | (simp_all; done) | grind, ⟨h15, h16, h17⟩, h18, hfr19⟩ dL_riserRow_22

abbrev rmL_riserRow_f : Room := { frames := 8, cells := 1, slots := 6, locals := 124 }
set_option maxRecDepth 100000 in
set_option maxHeartbeats 4000000 in
theorem kL_riserRow_f {l : Launch} (hl9 : l.stackTraces = false) {D : va_G} {k : ClassId × ClassId × ClassId} {a : Nat → Nat} {B0 : Nat} {w : Nat → va_E} (hA : gA B0 a) {nr : Nat} {ru : Nat → Int64} {rl : Nat → Int64} (hsX : sX k a w ) (hsR : sR k a w nr ru rl) (x : Int32) (y : Int32) (hn : nr = 8) : Met l yL_riserRow (tbwH yL_riserRow cL_riserRow 5 (some .int) hh_riserRow) rmL_riserRow_f (xPc D k a B0 w [.ref (a 0), .int x, .int y, .ref (a 21)]) (va_Qi (roP 1 w) (gB D k a) (gF B0)) 1 6 (gF B0) := by
  have hsX0 := hsX
  obtain ⟨hsR9, hsR10, hsR11⟩ := hsR
  refine y_ofW (by decide) rfl (fun p e s m args below meth c Q hQ htab hx hb hr hlk hml hown hts hB hG hK hS hXS ls hl => ?_)
  have hl : lv_has ls 5 [(0, .ref (a 0)), (1, .int x), (2, .int y), (3, .ref (a 21))] := hl
  have hown : s.vm.findClass RL = some m.cls := hown
  refine lv_aload_n hx hb dL_riserRow_0 rfl (lv_at hl 3 rfl) ?_
  refine lv_iconst (v := 0) hx hb dL_riserRow_1 (by decide) ?_
  refine lv_aload_n hx hb dL_riserRow_2 rfl (lv_at hl 0 rfl) ?_
  refine lv_iload_n hx hb dL_riserRow_3 rfl (lv_at hl 1 rfl) ?_
  refine lv_iload_n hx hb dL_riserRow_4 rfl (lv_at hl 2 rfl) ?_
  refine x_VX (i := 0) (As := [.int x, .int y]) (rest := [.int 0, .ref (a 21)]) (kX_riserRow_f hl9 hA hsX0 ⟨hsR9, hsR10, hsR11⟩ x y hn) calX_riserRow cvX_riserRow mlL_41 hx hb hml hown hts hB hG hK hS hXS (by decide) hsX0 rfl ⟨by decide, by decide⟩ rfl hl.1 rfl (Nat.le_of_ble_eq_true rfl) dL_riserRow_5 ⟨by decide, by decide⟩ (fun ce q9 H locs hG hS hce hcv hcl => ?_)
  refine vx_catch (E := eISE) (name := eISE) hown [] ⟨0, 10, 13, 13⟩ [⟨0, 10, 17, 15⟩] (htab.trans rfl) (fun _ h => nomatch h) (by decide) (by decide) (hts _ clL_13) (va_Nw.use rfl (hXS.2.2.2.1 (.castable eISE eISE) (by decide +kernel))) hce hcv hcl ?_
  refine lv_astore (lv' := [(4, .ref q9), (0, .ref (a 0)), (1, .int x), (2, .int y), (3, .ref (a 21))]) hx hb dL_riserRow_13 hl (by decide) rfl (fun ls hl => ?_)
  refine lv_iconst (v := 1) hx hb dL_riserRow_15 (by decide) ?_
  exact g_iret hQ hx hb hr hlk hG hK hS (by decide) (by decide) ⟨by first | rfl | omega | (simp_all; done) | grind, rfl⟩ dL_riserRow_16

abbrev rmL_riserRow_z : Room := { frames := 8, cells := 1, slots := 6, locals := 124 }
set_option maxRecDepth 100000 in
set_option maxHeartbeats 4000000 in
theorem kL_riserRow_z {l : Launch} (hl9 : l.stackTraces = false) {D : va_G} {k : ClassId × ClassId × ClassId} {a : Nat → Nat} {B0 : Nat} {w : Nat → va_E} (hA : gA B0 a) {nr : Nat} {ru : Nat → Int64} {rl : Nat → Int64} (hsX : sX k a w ) (hsR : sR k a w nr ru rl) (x : Int32) (y : Int32) (hn : nr < 8) (hz : ¬ (szR x ∧ szR y)) : Met l yL_riserRow (tbwH yL_riserRow cL_riserRow 5 (some .int) hh_riserRow) rmL_riserRow_z (xPc D k a B0 w [.ref (a 0), .int x, .int y, .ref (a 21)]) (va_Qi (roP 2 w) (gB D k a) (gF B0)) 1 6 (gF B0) := by
  have hsX0 := hsX
  obtain ⟨hsR9, hsR10, hsR11⟩ := hsR
  refine y_ofW (by decide) rfl (fun p e s m args below meth c Q hQ htab hx hb hr hlk hml hown hts hB hG hK hS hXS ls hl => ?_)
  have hl : lv_has ls 5 [(0, .ref (a 0)), (1, .int x), (2, .int y), (3, .ref (a 21))] := hl
  have hown : s.vm.findClass RL = some m.cls := hown
  refine lv_aload_n hx hb dL_riserRow_0 rfl (lv_at hl 3 rfl) ?_
  refine lv_iconst (v := 0) hx hb dL_riserRow_1 (by decide) ?_
  refine lv_aload_n hx hb dL_riserRow_2 rfl (lv_at hl 0 rfl) ?_
  refine lv_iload_n hx hb dL_riserRow_3 rfl (lv_at hl 1 rfl) ?_
  refine lv_iload_n hx hb dL_riserRow_4 rfl (lv_at hl 2 rfl) ?_
  refine x_VX (i := 0) (As := [.int x, .int y]) (rest := [.int 0, .ref (a 21)]) (kX_riserRow_z hl9 hA hsX0 ⟨hsR9, hsR10, hsR11⟩ x y hn hz) calX_riserRow cvX_riserRow mlL_41 hx hb hml hown hts hB hG hK hS hXS (by decide) hsX0 rfl ⟨by decide, by decide⟩ rfl hl.1 rfl (Nat.le_of_ble_eq_true rfl) dL_riserRow_5 ⟨by decide, by decide⟩ (fun ce q9 H locs hG hS hce hcv hcl => ?_)
  refine vx_catch (E := eIAE) (name := eIAE) hown [⟨0, 10, 13, 13⟩] ⟨0, 10, 17, 15⟩ [] (htab.trans rfl) (List.forall_mem_cons.mpr ⟨Or.inr ⟨by decide, eISE, hts _ clL_13, hXS.2.2.2.2 (eIAE, eISE) (by decide +kernel)⟩, (fun _ h => nomatch h)⟩) (by decide) (by decide) (hts _ clL_15) (va_Nw.use rfl (hXS.2.2.2.1 (.castable eIAE eIAE) (by decide +kernel))) hce hcv hcl ?_
  refine lv_astore (lv' := [(4, .ref q9), (0, .ref (a 0)), (1, .int x), (2, .int y), (3, .ref (a 21))]) hx hb dL_riserRow_17 hl (by decide) rfl (fun ls hl => ?_)
  refine lv_iconst (v := 2) hx hb dL_riserRow_19 (by decide) ?_
  exact g_iret hQ hx hb hr hlk hG hK hS (by decide) (by decide) ⟨by first | rfl | omega | (simp_all; done) | grind, rfl⟩ dL_riserRow_20

abbrev rmL_riser_k : Room := { frames := 3, cells := 0, slots := 0, locals := 64 }
set_option maxRecDepth 100000 in
set_option maxHeartbeats 4000000 in
theorem kL_riser_k {l : Launch} {D : va_G} {k : ClassId × ClassId × ClassId} {a : Nat → Nat} {B0 : Nat} {w : Nat → va_E} (hA : gA B0 a) {n : Nat} {up : Nat → Int64} {lo : Nat → Int64} {fa : Nat → Int32} {we : Nat → Int32} {ti : Nat → Int32} {ri : Nat → Int32} {jo : Nat → Int32} {nr : Nat} {ru : Nat → Int64} {rl : Nat → Int64} {oo : Nat → Int64} (hsX : sX k a w ) (hsP : sP k a w n up lo fa we ti ri jo) (hsR : sR k a w nr ru rl) (hsO : sO k a w oo) (j : Nat) (hj : j < n) (hn : n ≤ 12) (hr8 : nr ≤ 8) (ht : 0 < lo j) (hf : ¬ fstF (rFitP ru rl (up j) (lo j)) nr 0 = -1) : Met l yL_riser (tbwH yL_riser cL_riser 4 (some .int) hh_riser) rmL_riser_k (gPc D k a B0 w [.ref (a 0), .int (nI j), .ref (a 21)]) (va_Qi (fun rr9 w1 => rr9 = 0 ∧ (sP k a w1 n up lo fa we ti (upd ri j (fstF (rFitP ru rl (up j) (lo j)) nr 0)) jo) ∧ (sO k a w1 (vp_updL oo 0 ((fstF (rFitP ru rl (up j) (lo j)) nr 0).toInt64))) ∧ ∀ z, (z < 1 ∨ 8 < z) ∧ z ≠ 21 → w1 z = w z) (gB D k a) (gF B0)) 0 0 (gF B0) := by
  have hsX0 := hsX
  obtain ⟨hsP1, hsP2, hsP3, hsP4, hsP5, hsP6, hsP7, hsP8⟩ := hsP
  obtain ⟨hsR9, hsR10, hsR11⟩ := hsR
  have hsO21 := hsO
  refine h_ofW (by decide) rfl (fun p e s m args below meth c Q hQ hx hb hr hlk hml hown hts hB hG hK hS ls hl => ?_)
  have hl : lv_has ls 4 [(0, .ref (a 0)), (1, .int (nI j)), (2, .ref (a 21))] := hl
  have hown : s.vm.findClass RL = some m.cls := hown
  have hfr0 : ∀ z, (z < 1 ∨ 8 < z) ∧ z ≠ 21 → w z = w z := fun _ _ => rfl
  refine lv_aload_n hx hb dL_riser_0 rfl (lv_at hl 2 rfl) ?_
  refine lv_iconst (v := 0) hx hb dL_riser_1 (by decide) ?_
  refine lv_aload_n hx hb dL_riser_2 rfl (lv_at hl 0 rfl) ?_
  refine lv_iload_n hx hb dL_riser_3 rfl (lv_at hl 1 rfl) ?_
  refine g_Vi (i := 0) (As := [.int (nI j)]) (rest := [.int 0, .ref (a 21)]) (kX_riser hA hsX0 ⟨hsP1, hsP2, hsP3, hsP4, hsP5, hsP6, hsP7, hsP8⟩ ⟨hsR9, hsR10, hsR11⟩ j hj hn hr8 ht hf) calX_riser cvX_riser mlL_44 hx hb hml hown hts hB hG hK hS (by decide) hsX0 rfl ⟨by decide, by decide⟩ rfl hl.1 rfl (Nat.le_of_ble_eq_true rfl) dL_riser_4 ⟨by decide, by decide⟩ (fun r1 w2 H locs hp3 hG hS => ?_)
  obtain ⟨er12, ⟨h4, h5, h6, h7, h8, h9, h10, h11⟩, hfr13⟩ := hp3
  have h14 : w2 0 = .inr (0, [.ref (a 1), .ref (a 9), .ref (a 12), .ref (a 15)]) := (hfr13 0 (by omega)).trans hsX0
  have h15 : w2 9 = .inr (2, [.ref (a 10), .ref (a 11), .int (nI nr)]) := (hfr13 9 (by omega)).trans hsR9
  have h16 : w2 10 = .inl (k.2.1, 8, .inr (.inl ru)) := (hfr13 10 (by omega)).trans hsR10
  have h17 : w2 11 = .inl (k.2.1, 8, .inr (.inl rl)) := (hfr13 11 (by omega)).trans hsR11
  have h18 : w2 21 = .inl (k.2.1, 1, .inr (.inl oo)) := (hfr13 21 (by omega)).trans hsO21
  have hfr19 : ∀ z, (z < 1 ∨ 8 < z) ∧ z ≠ 21 → w2 z = w z := fun z hz => (hfr13 z (by omega)).trans (hfr0 z hz)
  rw [er12]
  refine lv_i2l hx hb dL_riser_7 rfl ?_
  refine g_last hx hb hK hA hG hS 21 (by decide) h18 (j := 0) (by omega) (by decide) dL_riser_8 (fun H locs hG hS => ?_)
  obtain ⟨w20, hw21⟩ : ∃ zz9, zz9 = va_up w2 21 (.inl (k.2.1, 1, .inr (.inl (vp_updL oo 0 ((fstF (rFitP ru rl (up j) (lo j)) nr 0).toInt64))))) := ⟨_, rfl⟩
  replace hG : gW D a w20 H := by rw [hw21]; exact hG
  have h22 : w20 0 = .inr (0, [.ref (a 1), .ref (a 9), .ref (a 12), .ref (a 15)]) := by rw [hw21]; exact h14
  have h23 : w20 1 = .inr (1, [.ref (a 2), .ref (a 3), .ref (a 4), .ref (a 5), .ref (a 6), .ref (a 7), .ref (a 8), .int (nI n)]) := by rw [hw21]; exact h4
  have h24 : w20 2 = .inl (k.2.1, 12, .inr (.inl up)) := by rw [hw21]; exact h5
  have h25 : w20 3 = .inl (k.2.1, 12, .inr (.inl lo)) := by rw [hw21]; exact h6
  have h26 : w20 4 = .inl (k.1, 12, .inl fa) := by rw [hw21]; exact h7
  have h27 : w20 5 = .inl (k.1, 72, .inl we) := by rw [hw21]; exact h8
  have h28 : w20 6 = .inl (k.1, 72, .inl ti) := by rw [hw21]; exact h9
  have h29 : w20 7 = .inl (k.1, 12, .inl (upd ri j (fstF (rFitP ru rl (up j) (lo j)) nr 0))) := by rw [hw21]; exact h10
  have h30 : w20 8 = .inl (k.2.2, 144, .inl jo) := by rw [hw21]; exact h11
  have h31 : w20 9 = .inr (2, [.ref (a 10), .ref (a 11), .int (nI nr)]) := by rw [hw21]; exact h15
  have h32 : w20 10 = .inl (k.2.1, 8, .inr (.inl ru)) := by rw [hw21]; exact h16
  have h33 : w20 11 = .inl (k.2.1, 8, .inr (.inl rl)) := by rw [hw21]; exact h17
  have h34 : w20 21 = .inl (k.2.1, 1, .inr (.inl (vp_updL oo 0 ((fstF (rFitP ru rl (up j) (lo j)) nr 0).toInt64)))) := by rw [hw21]; rfl
  have hfr35 : ∀ z, (z < 1 ∨ 8 < z) ∧ z ≠ 21 → w20 z = w z := fun z hz => by rw [hw21]; exact (va_up_ne _ _ (by omega)).trans (hfr19 z hz)
  refine lv_goto (tgt := 18) hx hb dL_riser_9 (by decide) ?_
  refine lv_iconst (v := 0) hx hb dL_riser_18 (by decide) ?_
  exact g_iret hQ hx hb hr hlk hG hK hS (by decide) (by decide) ⟨by first | rfl | omega | (simp_all; done) | grind, ⟨h23, h24, h25, h26, h27, h28, h29, h30⟩, h34, hfr35⟩ dL_riser_19

abbrev rmL_riser_p : Room := { frames := 8, cells := 1, slots := 6, locals := 125 }
set_option maxRecDepth 100000 in
set_option maxHeartbeats 4000000 in
theorem kL_riser_p {l : Launch} (hl9 : l.stackTraces = false) {D : va_G} {k : ClassId × ClassId × ClassId} {a : Nat → Nat} {B0 : Nat} {w : Nat → va_E} (hA : gA B0 a) {n : Nat} {up : Nat → Int64} {lo : Nat → Int64} {fa : Nat → Int32} {we : Nat → Int32} {ti : Nat → Int32} {ri : Nat → Int32} {jo : Nat → Int32} {nr : Nat} {ru : Nat → Int64} {rl : Nat → Int64} (hsX : sX k a w ) (hsP : sP k a w n up lo fa we ti ri jo) (hsR : sR k a w nr ru rl) (q : Int32) (hq : ¬ (¬ q < 0 ∧ ¬ nI n ≤ q)) : Met l yL_riser (tbwH yL_riser cL_riser 4 (some .int) hh_riser) rmL_riser_p (xPc D k a B0 w [.ref (a 0), .int q, .ref (a 21)]) (va_Qi (roP 1 w) (gB D k a) (gF B0)) 1 6 (gF B0) := by
  have hsX0 := hsX
  obtain ⟨hsP1, hsP2, hsP3, hsP4, hsP5, hsP6, hsP7, hsP8⟩ := hsP
  obtain ⟨hsR9, hsR10, hsR11⟩ := hsR
  refine y_ofW (by decide) rfl (fun p e s m args below meth c Q hQ htab hx hb hr hlk hml hown hts hB hG hK hS hXS ls hl => ?_)
  have hl : lv_has ls 4 [(0, .ref (a 0)), (1, .int q), (2, .ref (a 21))] := hl
  have hown : s.vm.findClass RL = some m.cls := hown
  refine lv_aload_n hx hb dL_riser_0 rfl (lv_at hl 2 rfl) ?_
  refine lv_iconst (v := 0) hx hb dL_riser_1 (by decide) ?_
  refine lv_aload_n hx hb dL_riser_2 rfl (lv_at hl 0 rfl) ?_
  refine lv_iload_n hx hb dL_riser_3 rfl (lv_at hl 1 rfl) ?_
  refine x_VX (i := 0) (As := [.int q]) (rest := [.int 0, .ref (a 21)]) (kX_riser_p hl9 hA hsX0 ⟨hsP1, hsP2, hsP3, hsP4, hsP5, hsP6, hsP7, hsP8⟩ ⟨hsR9, hsR10, hsR11⟩ q hq) calX_riser cvX_riser mlL_44 hx hb hml hown hts hB hG hK hS hXS (by decide) hsX0 rfl ⟨by decide, by decide⟩ rfl hl.1 rfl (Nat.le_of_ble_eq_true rfl) dL_riser_4 ⟨by decide, by decide⟩ (fun ce q9 H locs hG hS hce hcv hcl => ?_)
  refine vx_catch (E := eIOB) (name := eIOB) hown [] ⟨0, 9, 12, 25⟩ [⟨0, 9, 15, 31⟩] (htab.trans rfl) (fun _ h => nomatch h) (by decide) (by decide) (hts _ clL_25) (va_Nw.use rfl (hXS.2.2.2.1 (.castable eIOB eIOB) (by decide +kernel))) hce hcv hcl ?_
  refine lv_astore_n (lv' := [(3, .ref q9), (0, .ref (a 0)), (1, .int q), (2, .ref (a 21))]) hx hb dL_riser_12 rfl hl (by decide) rfl (fun ls hl => ?_)
  refine lv_iconst (v := 1) hx hb dL_riser_13 (by decide) ?_
  exact g_iret hQ hx hb hr hlk hG hK hS (by decide) (by decide) ⟨by first | rfl | omega | (simp_all; done) | grind, rfl⟩ dL_riser_14

abbrev rmL_riser_t : Room := { frames := 8, cells := 1, slots := 6, locals := 125 }
set_option maxRecDepth 100000 in
set_option maxHeartbeats 4000000 in
theorem kL_riser_t {l : Launch} (hl9 : l.stackTraces = false) {D : va_G} {k : ClassId × ClassId × ClassId} {a : Nat → Nat} {B0 : Nat} {w : Nat → va_E} (hA : gA B0 a) {n : Nat} {up : Nat → Int64} {lo : Nat → Int64} {fa : Nat → Int32} {we : Nat → Int32} {ti : Nat → Int32} {ri : Nat → Int32} {jo : Nat → Int32} {nr : Nat} {ru : Nat → Int64} {rl : Nat → Int64} (hsX : sX k a w ) (hsP : sP k a w n up lo fa we ti ri jo) (hsR : sR k a w nr ru rl) (j : Nat) (hj : j < n) (hn : n ≤ 12) (ht : ¬ 0 < lo j) : Met l yL_riser (tbwH yL_riser cL_riser 4 (some .int) hh_riser) rmL_riser_t (xPc D k a B0 w [.ref (a 0), .int (nI j), .ref (a 21)]) (va_Qi (roP 2 w) (gB D k a) (gF B0)) 1 6 (gF B0) := by
  have hsX0 := hsX
  obtain ⟨hsP1, hsP2, hsP3, hsP4, hsP5, hsP6, hsP7, hsP8⟩ := hsP
  obtain ⟨hsR9, hsR10, hsR11⟩ := hsR
  refine y_ofW (by decide) rfl (fun p e s m args below meth c Q hQ htab hx hb hr hlk hml hown hts hB hG hK hS hXS ls hl => ?_)
  have hl : lv_has ls 4 [(0, .ref (a 0)), (1, .int (nI j)), (2, .ref (a 21))] := hl
  have hown : s.vm.findClass RL = some m.cls := hown
  refine lv_aload_n hx hb dL_riser_0 rfl (lv_at hl 2 rfl) ?_
  refine lv_iconst (v := 0) hx hb dL_riser_1 (by decide) ?_
  refine lv_aload_n hx hb dL_riser_2 rfl (lv_at hl 0 rfl) ?_
  refine lv_iload_n hx hb dL_riser_3 rfl (lv_at hl 1 rfl) ?_
  refine x_VX (i := 0) (As := [.int (nI j)]) (rest := [.int 0, .ref (a 21)]) (kX_riser_t hl9 hA hsX0 ⟨hsP1, hsP2, hsP3, hsP4, hsP5, hsP6, hsP7, hsP8⟩ ⟨hsR9, hsR10, hsR11⟩ j hj hn ht) calX_riser cvX_riser mlL_44 hx hb hml hown hts hB hG hK hS hXS (by decide) hsX0 rfl ⟨by decide, by decide⟩ rfl hl.1 rfl (Nat.le_of_ble_eq_true rfl) dL_riser_4 ⟨by decide, by decide⟩ (fun ce q9 H locs hG hS hce hcv hcl => ?_)
  refine vx_catch (E := eUOE) (name := eUOE) hown [⟨0, 9, 12, 25⟩] ⟨0, 9, 15, 31⟩ [] (htab.trans rfl) (List.forall_mem_cons.mpr ⟨Or.inr ⟨by decide, eIOB, hts _ clL_25, hXS.2.2.2.2 (eUOE, eIOB) (by decide +kernel)⟩, (fun _ h => nomatch h)⟩) (by decide) (by decide) (hts _ clL_31) (va_Nw.use rfl (hXS.2.2.2.1 (.castable eUOE eUOE) (by decide +kernel))) hce hcv hcl ?_
  refine lv_astore_n (lv' := [(3, .ref q9), (0, .ref (a 0)), (1, .int (nI j)), (2, .ref (a 21))]) hx hb dL_riser_15 rfl hl (by decide) rfl (fun ls hl => ?_)
  refine lv_iconst (v := 2) hx hb dL_riser_16 (by decide) ?_
  exact g_iret hQ hx hb hr hlk hG hK hS (by decide) (by decide) ⟨by first | rfl | omega | (simp_all; done) | grind, rfl⟩ dL_riser_17

abbrev rmL_riser_r : Room := { frames := 8, cells := 1, slots := 6, locals := 125 }
set_option maxRecDepth 100000 in
set_option maxHeartbeats 4000000 in
theorem kL_riser_r {l : Launch} (hl9 : l.stackTraces = false) {D : va_G} {k : ClassId × ClassId × ClassId} {a : Nat → Nat} {B0 : Nat} {w : Nat → va_E} (hA : gA B0 a) {n : Nat} {up : Nat → Int64} {lo : Nat → Int64} {fa : Nat → Int32} {we : Nat → Int32} {ti : Nat → Int32} {ri : Nat → Int32} {jo : Nat → Int32} {nr : Nat} {ru : Nat → Int64} {rl : Nat → Int64} (hsX : sX k a w ) (hsP : sP k a w n up lo fa we ti ri jo) (hsR : sR k a w nr ru rl) (j : Nat) (hj : j < n) (hn : n ≤ 12) (hr8 : nr ≤ 8) (ht : 0 < lo j) (hf : fstF (rFitP ru rl (up j) (lo j)) nr 0 = -1) : Met l yL_riser (tbwH yL_riser cL_riser 4 (some .int) hh_riser) rmL_riser_r (xPc D k a B0 w [.ref (a 0), .int (nI j), .ref (a 21)]) (va_Qi (roP 2 w) (gB D k a) (gF B0)) 1 6 (gF B0) := by
  have hsX0 := hsX
  obtain ⟨hsP1, hsP2, hsP3, hsP4, hsP5, hsP6, hsP7, hsP8⟩ := hsP
  obtain ⟨hsR9, hsR10, hsR11⟩ := hsR
  refine y_ofW (by decide) rfl (fun p e s m args below meth c Q hQ htab hx hb hr hlk hml hown hts hB hG hK hS hXS ls hl => ?_)
  have hl : lv_has ls 4 [(0, .ref (a 0)), (1, .int (nI j)), (2, .ref (a 21))] := hl
  have hown : s.vm.findClass RL = some m.cls := hown
  refine lv_aload_n hx hb dL_riser_0 rfl (lv_at hl 2 rfl) ?_
  refine lv_iconst (v := 0) hx hb dL_riser_1 (by decide) ?_
  refine lv_aload_n hx hb dL_riser_2 rfl (lv_at hl 0 rfl) ?_
  refine lv_iload_n hx hb dL_riser_3 rfl (lv_at hl 1 rfl) ?_
  refine x_VX (i := 0) (As := [.int (nI j)]) (rest := [.int 0, .ref (a 21)]) (kX_riser_r hl9 hA hsX0 ⟨hsP1, hsP2, hsP3, hsP4, hsP5, hsP6, hsP7, hsP8⟩ ⟨hsR9, hsR10, hsR11⟩ j hj hn hr8 ht hf) calX_riser cvX_riser mlL_44 hx hb hml hown hts hB hG hK hS hXS (by decide) hsX0 rfl ⟨by decide, by decide⟩ rfl hl.1 rfl (Nat.le_of_ble_eq_true rfl) dL_riser_4 ⟨by decide, by decide⟩ (fun ce q9 H locs hG hS hce hcv hcl => ?_)
  refine vx_catch (E := eUOE) (name := eUOE) hown [⟨0, 9, 12, 25⟩] ⟨0, 9, 15, 31⟩ [] (htab.trans rfl) (List.forall_mem_cons.mpr ⟨Or.inr ⟨by decide, eIOB, hts _ clL_25, hXS.2.2.2.2 (eUOE, eIOB) (by decide +kernel)⟩, (fun _ h => nomatch h)⟩) (by decide) (by decide) (hts _ clL_31) (va_Nw.use rfl (hXS.2.2.2.1 (.castable eUOE eUOE) (by decide +kernel))) hce hcv hcl ?_
  refine lv_astore_n (lv' := [(3, .ref q9), (0, .ref (a 0)), (1, .int (nI j)), (2, .ref (a 21))]) hx hb dL_riser_15 rfl hl (by decide) rfl (fun ls hl => ?_)
  refine lv_iconst (v := 2) hx hb dL_riser_16 (by decide) ?_
  exact g_iret hQ hx hb hr hlk hG hK hS (by decide) (by decide) ⟨by first | rfl | omega | (simp_all; done) | grind, rfl⟩ dL_riser_17

abbrev rmL_cutOff_k : Room := { frames := 3, cells := 0, slots := 0, locals := 63 }
set_option maxRecDepth 100000 in
set_option maxHeartbeats 4000000 in
theorem kL_cutOff_k {l : Launch} {D : va_G} {k : ClassId × ClassId × ClassId} {a : Nat → Nat} {B0 : Nat} {w : Nat → va_E} (hA : gA B0 a) {n : Nat} {up : Nat → Int64} {lo : Nat → Int64} {fa : Nat → Int32} {we : Nat → Int32} {ti : Nat → Int32} {ri : Nat → Int32} {jo : Nat → Int32} (hsX : sX k a w ) (hsP : sP k a w n up lo fa we ti ri jo) (j : Nat) (hj : j < n) (hn : n ≤ 12) (hr9 : ¬ ri j = -1) : Met l yL_cutOff (tbwH yL_cutOff cL_cutOff 3 (some .int) hh_cutOff) rmL_cutOff_k (gPc D k a B0 w [.ref (a 0), .int (nI j)]) (va_Qi (fun rr9 w1 => rr9 = 0 ∧ (sP k a w1 n up lo fa we ti (upd ri j (-1)) jo) ∧ ∀ z, z < 1 ∨ 8 < z → w1 z = w z) (gB D k a) (gF B0)) 0 0 (gF B0) := by
  have hsX0 := hsX
  obtain ⟨hsP1, hsP2, hsP3, hsP4, hsP5, hsP6, hsP7, hsP8⟩ := hsP
  refine h_ofW (by decide) rfl (fun p e s m args below meth c Q hQ hx hb hr hlk hml hown hts hB hG hK hS ls hl => ?_)
  have hl : lv_has ls 3 [(0, .ref (a 0)), (1, .int (nI j))] := hl
  have hown : s.vm.findClass RL = some m.cls := hown
  have hfr0 : ∀ z, z < 1 ∨ 8 < z → w z = w z := fun _ _ => rfl
  refine lv_aload_n hx hb dL_cutOff_0 rfl (lv_at hl 0 rfl) ?_
  refine lv_iload_n hx hb dL_cutOff_1 rfl (lv_at hl 1 rfl) ?_
  refine g_Vv (i := 0) (As := [.int (nI j)]) (rest := []) (kX_cutOff hA hsX0 ⟨hsP1, hsP2, hsP3, hsP4, hsP5, hsP6, hsP7, hsP8⟩ j hj hn hr9) calX_cutOff cvX_cutOff mlL_47 hx hb hml hown hts hB hG hK hS (by decide) hsX0 rfl ⟨by decide, by decide⟩ rfl hl.1 rfl (Nat.le_of_ble_eq_true rfl) dL_cutOff_2 ⟨by decide, by decide⟩ (fun w2 H locs hp3 hG hS => ?_)
  obtain ⟨⟨h4, h5, h6, h7, h8, h9, h10, h11⟩, hfr13⟩ := hp3
  have h14 : w2 0 = .inr (0, [.ref (a 1), .ref (a 9), .ref (a 12), .ref (a 15)]) := (hfr13 0 (by omega)).trans hsX0
  have hfr15 : ∀ z, z < 1 ∨ 8 < z → w2 z = w z := fun z hz => (hfr13 z (by omega)).trans (hfr0 z hz)
  refine lv_goto (tgt := 14) hx hb dL_cutOff_5 (by decide) ?_
  refine lv_iconst (v := 0) hx hb dL_cutOff_14 (by decide) ?_
  exact g_iret hQ hx hb hr hlk hG hK hS (by decide) (by decide) ⟨by first | rfl | omega | (simp_all; done) | grind, ⟨h4, h5, h6, h7, h8, h9, h10, h11⟩, hfr15⟩ dL_cutOff_15

abbrev rmL_cutOff_p : Room := { frames := 8, cells := 1, slots := 6, locals := 124 }
set_option maxRecDepth 100000 in
set_option maxHeartbeats 4000000 in
theorem kL_cutOff_p {l : Launch} (hl9 : l.stackTraces = false) {D : va_G} {k : ClassId × ClassId × ClassId} {a : Nat → Nat} {B0 : Nat} {w : Nat → va_E} (hA : gA B0 a) {n : Nat} {up : Nat → Int64} {lo : Nat → Int64} {fa : Nat → Int32} {we : Nat → Int32} {ti : Nat → Int32} {ri : Nat → Int32} {jo : Nat → Int32} (hsX : sX k a w ) (hsP : sP k a w n up lo fa we ti ri jo) (q : Int32) (hq : ¬ (¬ q < 0 ∧ ¬ nI n ≤ q)) : Met l yL_cutOff (tbwH yL_cutOff cL_cutOff 3 (some .int) hh_cutOff) rmL_cutOff_p (xPc D k a B0 w [.ref (a 0), .int q]) (va_Qi (roP 1 w) (gB D k a) (gF B0)) 1 6 (gF B0) := by
  have hsX0 := hsX
  obtain ⟨hsP1, hsP2, hsP3, hsP4, hsP5, hsP6, hsP7, hsP8⟩ := hsP
  refine y_ofW (by decide) rfl (fun p e s m args below meth c Q hQ htab hx hb hr hlk hml hown hts hB hG hK hS hXS ls hl => ?_)
  have hl : lv_has ls 3 [(0, .ref (a 0)), (1, .int q)] := hl
  have hown : s.vm.findClass RL = some m.cls := hown
  refine lv_aload_n hx hb dL_cutOff_0 rfl (lv_at hl 0 rfl) ?_
  refine lv_iload_n hx hb dL_cutOff_1 rfl (lv_at hl 1 rfl) ?_
  refine x_VX (i := 0) (As := [.int q]) (rest := []) (kX_cutOff_p hl9 hA hsX0 ⟨hsP1, hsP2, hsP3, hsP4, hsP5, hsP6, hsP7, hsP8⟩ q hq) calX_cutOff cvX_cutOff mlL_47 hx hb hml hown hts hB hG hK hS hXS (by decide) hsX0 rfl ⟨by decide, by decide⟩ rfl hl.1 rfl (Nat.le_of_ble_eq_true rfl) dL_cutOff_2 ⟨by decide, by decide⟩ (fun ce q9 H locs hG hS hce hcv hcl => ?_)
  refine vx_catch (E := eIOB) (name := eIOB) hown [] ⟨0, 5, 8, 25⟩ [⟨0, 5, 11, 13⟩] (htab.trans rfl) (fun _ h => nomatch h) (by decide) (by decide) (hts _ clL_25) (va_Nw.use rfl (hXS.2.2.2.1 (.castable eIOB eIOB) (by decide +kernel))) hce hcv hcl ?_
  refine lv_astore_n (lv' := [(2, .ref q9), (0, .ref (a 0)), (1, .int q)]) hx hb dL_cutOff_8 rfl hl (by decide) rfl (fun ls hl => ?_)
  refine lv_iconst (v := 1) hx hb dL_cutOff_9 (by decide) ?_
  exact g_iret hQ hx hb hr hlk hG hK hS (by decide) (by decide) ⟨by first | rfl | omega | (simp_all; done) | grind, rfl⟩ dL_cutOff_10

abbrev rmL_cutOff_r : Room := { frames := 8, cells := 1, slots := 6, locals := 124 }
set_option maxRecDepth 100000 in
set_option maxHeartbeats 4000000 in
theorem kL_cutOff_r {l : Launch} (hl9 : l.stackTraces = false) {D : va_G} {k : ClassId × ClassId × ClassId} {a : Nat → Nat} {B0 : Nat} {w : Nat → va_E} (hA : gA B0 a) {n : Nat} {up : Nat → Int64} {lo : Nat → Int64} {fa : Nat → Int32} {we : Nat → Int32} {ti : Nat → Int32} {ri : Nat → Int32} {jo : Nat → Int32} (hsX : sX k a w ) (hsP : sP k a w n up lo fa we ti ri jo) (j : Nat) (hj : j < n) (hn : n ≤ 12) (hr9 : ri j = -1) : Met l yL_cutOff (tbwH yL_cutOff cL_cutOff 3 (some .int) hh_cutOff) rmL_cutOff_r (xPc D k a B0 w [.ref (a 0), .int (nI j)]) (va_Qi (roP 2 w) (gB D k a) (gF B0)) 1 6 (gF B0) := by
  have hsX0 := hsX
  obtain ⟨hsP1, hsP2, hsP3, hsP4, hsP5, hsP6, hsP7, hsP8⟩ := hsP
  refine y_ofW (by decide) rfl (fun p e s m args below meth c Q hQ htab hx hb hr hlk hml hown hts hB hG hK hS hXS ls hl => ?_)
  have hl : lv_has ls 3 [(0, .ref (a 0)), (1, .int (nI j))] := hl
  have hown : s.vm.findClass RL = some m.cls := hown
  refine lv_aload_n hx hb dL_cutOff_0 rfl (lv_at hl 0 rfl) ?_
  refine lv_iload_n hx hb dL_cutOff_1 rfl (lv_at hl 1 rfl) ?_
  refine x_VX (i := 0) (As := [.int (nI j)]) (rest := []) (kX_cutOff_r hl9 hA hsX0 ⟨hsP1, hsP2, hsP3, hsP4, hsP5, hsP6, hsP7, hsP8⟩ j hj hn hr9) calX_cutOff cvX_cutOff mlL_47 hx hb hml hown hts hB hG hK hS hXS (by decide) hsX0 rfl ⟨by decide, by decide⟩ rfl hl.1 rfl (Nat.le_of_ble_eq_true rfl) dL_cutOff_2 ⟨by decide, by decide⟩ (fun ce q9 H locs hG hS hce hcv hcl => ?_)
  refine vx_catch (E := eISE) (name := eISE) hown [⟨0, 5, 8, 25⟩] ⟨0, 5, 11, 13⟩ [] (htab.trans rfl) (List.forall_mem_cons.mpr ⟨Or.inr ⟨by decide, eIOB, hts _ clL_25, hXS.2.2.2.2 (eISE, eIOB) (by decide +kernel)⟩, (fun _ h => nomatch h)⟩) (by decide) (by decide) (hts _ clL_13) (va_Nw.use rfl (hXS.2.2.2.1 (.castable eISE eISE) (by decide +kernel))) hce hcv hcl ?_
  refine lv_astore_n (lv' := [(2, .ref q9), (0, .ref (a 0)), (1, .int (nI j))]) hx hb dL_cutOff_11 rfl hl (by decide) rfl (fun ls hl => ?_)
  refine lv_iconst (v := 2) hx hb dL_cutOff_12 (by decide) ?_
  exact g_iret hQ hx hb hr hlk hG hK hS (by decide) (by decide) ⟨by first | rfl | omega | (simp_all; done) | grind, rfl⟩ dL_cutOff_13

abbrev rmL_feeder_k : Room := { frames := 5, cells := 0, slots := 0, locals := 111 }
set_option maxRecDepth 100000 in
set_option maxHeartbeats 4000000 in
theorem kL_feeder_k {l : Launch} {D : va_G} {k : ClassId × ClassId × ClassId} {a : Nat → Nat} {B0 : Nat} {w : Nat → va_E} (hA : gA B0 a) {n : Nat} {up : Nat → Int64} {lo : Nat → Int64} {fa : Nat → Int32} {we : Nat → Int32} {ti : Nat → Int32} {ri : Nat → Int32} {jo : Nat → Int32} {oo : Nat → Int64} (hsX : sX k a w ) (hsP : sP k a w n up lo fa we ti ri jo) (hsO : sO k a w oo) (j : Nat) (hj : j < n) (hn : n ≤ 12) (hjo : ∀ z, z < 144 → narrow .boolean (.int (jo z)) = .int (jo z)) : Met l yL_feeder (tbwH yL_feeder cL_feeder 4 (some .int) hh_feeder) rmL_feeder_k (gPc D k a B0 w [.ref (a 0), .int (nI j), .ref (a 21)]) (va_Qi (fun rr9 w1 => rr9 = 0 ∧ (sO k a w1 (vp_updL oo 0 ((rFeed up lo ri jo n j).toInt64))) ∧ ∀ z, z < 21 ∨ 21 < z → w1 z = w z) (gB D k a) (gF B0)) 0 0 (gF B0) := by
  have hsX0 := hsX
  obtain ⟨hsP1, hsP2, hsP3, hsP4, hsP5, hsP6, hsP7, hsP8⟩ := hsP
  have hsO21 := hsO
  refine h_ofW (by decide) rfl (fun p e s m args below meth c Q hQ hx hb hr hlk hml hown hts hB hG hK hS ls hl => ?_)
  have hl : lv_has ls 4 [(0, .ref (a 0)), (1, .int (nI j)), (2, .ref (a 21))] := hl
  have hown : s.vm.findClass RL = some m.cls := hown
  have hfr0 : ∀ z, z < 21 ∨ 21 < z → w z = w z := fun _ _ => rfl
  refine lv_aload_n hx hb dL_feeder_0 rfl (lv_at hl 2 rfl) ?_
  refine lv_iconst (v := 0) hx hb dL_feeder_1 (by decide) ?_
  refine lv_aload_n hx hb dL_feeder_2 rfl (lv_at hl 0 rfl) ?_
  refine lv_iload_n hx hb dL_feeder_3 rfl (lv_at hl 1 rfl) ?_
  refine g_ViR (i := 0) (As := [.int (nI j)]) (rest := [.int 0, .ref (a 21)]) (kX_feeder hA hsX0 ⟨hsP1, hsP2, hsP3, hsP4, hsP5, hsP6, hsP7, hsP8⟩ j hj hn hjo) calX_feeder cvX_feeder mlL_51 hx hb hml hown hts hB hG hK hS (by decide) hsX0 rfl ⟨by decide, by decide⟩ rfl hl.1 rfl (Nat.le_of_ble_eq_true rfl) dL_feeder_4 ⟨by decide, by decide⟩ (fun H locs hG hS => ?_)
  refine lv_i2l hx hb dL_feeder_7 rfl ?_
  refine g_last hx hb hK hA hG hS 21 (by decide) hsO21 (j := 0) (by omega) (by decide) dL_feeder_8 (fun H locs hG hS => ?_)
  obtain ⟨w1, hw2⟩ : ∃ zz9, zz9 = va_up w 21 (.inl (k.2.1, 1, .inr (.inl (vp_updL oo 0 ((rFeed up lo ri jo n j).toInt64))))) := ⟨_, rfl⟩
  replace hG : gW D a w1 H := by rw [hw2]; exact hG
  have h3 : w1 0 = .inr (0, [.ref (a 1), .ref (a 9), .ref (a 12), .ref (a 15)]) := by rw [hw2]; exact hsX0
  have h4 : w1 1 = .inr (1, [.ref (a 2), .ref (a 3), .ref (a 4), .ref (a 5), .ref (a 6), .ref (a 7), .ref (a 8), .int (nI n)]) := by rw [hw2]; exact hsP1
  have h5 : w1 2 = .inl (k.2.1, 12, .inr (.inl up)) := by rw [hw2]; exact hsP2
  have h6 : w1 3 = .inl (k.2.1, 12, .inr (.inl lo)) := by rw [hw2]; exact hsP3
  have h7 : w1 4 = .inl (k.1, 12, .inl fa) := by rw [hw2]; exact hsP4
  have h8 : w1 5 = .inl (k.1, 72, .inl we) := by rw [hw2]; exact hsP5
  have h9 : w1 6 = .inl (k.1, 72, .inl ti) := by rw [hw2]; exact hsP6
  have h10 : w1 7 = .inl (k.1, 12, .inl ri) := by rw [hw2]; exact hsP7
  have h11 : w1 8 = .inl (k.2.2, 144, .inl jo) := by rw [hw2]; exact hsP8
  have h12 : w1 21 = .inl (k.2.1, 1, .inr (.inl (vp_updL oo 0 ((rFeed up lo ri jo n j).toInt64)))) := by rw [hw2]; rfl
  have hfr13 : ∀ z, z < 21 ∨ 21 < z → w1 z = w z := fun z hz => by rw [hw2]; exact (va_up_ne _ _ (by omega)).trans (hfr0 z hz)
  refine lv_goto (tgt := 15) hx hb dL_feeder_9 (by decide) ?_
  refine lv_iconst (v := 0) hx hb dL_feeder_15 (by decide) ?_
  exact g_iret hQ hx hb hr hlk hG hK hS (by decide) (by decide) ⟨by first | rfl | omega | (simp_all; done) | grind, h12, hfr13⟩ dL_feeder_16

abbrev rmL_feeder_p : Room := { frames := 8, cells := 1, slots := 6, locals := 124 }
set_option maxRecDepth 100000 in
set_option maxHeartbeats 4000000 in
theorem kL_feeder_p {l : Launch} (hl9 : l.stackTraces = false) {D : va_G} {k : ClassId × ClassId × ClassId} {a : Nat → Nat} {B0 : Nat} {w : Nat → va_E} (hA : gA B0 a) {n : Nat} {up : Nat → Int64} {lo : Nat → Int64} {fa : Nat → Int32} {we : Nat → Int32} {ti : Nat → Int32} {ri : Nat → Int32} {jo : Nat → Int32} (hsX : sX k a w ) (hsP : sP k a w n up lo fa we ti ri jo) (q : Int32) (hq : ¬ (¬ q < 0 ∧ ¬ nI n ≤ q)) : Met l yL_feeder (tbwH yL_feeder cL_feeder 4 (some .int) hh_feeder) rmL_feeder_p (xPc D k a B0 w [.ref (a 0), .int q, .ref (a 21)]) (va_Qi (roP 1 w) (gB D k a) (gF B0)) 1 6 (gF B0) := by
  have hsX0 := hsX
  obtain ⟨hsP1, hsP2, hsP3, hsP4, hsP5, hsP6, hsP7, hsP8⟩ := hsP
  refine y_ofW (by decide) rfl (fun p e s m args below meth c Q hQ htab hx hb hr hlk hml hown hts hB hG hK hS hXS ls hl => ?_)
  have hl : lv_has ls 4 [(0, .ref (a 0)), (1, .int q), (2, .ref (a 21))] := hl
  have hown : s.vm.findClass RL = some m.cls := hown
  refine lv_aload_n hx hb dL_feeder_0 rfl (lv_at hl 2 rfl) ?_
  refine lv_iconst (v := 0) hx hb dL_feeder_1 (by decide) ?_
  refine lv_aload_n hx hb dL_feeder_2 rfl (lv_at hl 0 rfl) ?_
  refine lv_iload_n hx hb dL_feeder_3 rfl (lv_at hl 1 rfl) ?_
  refine x_VX (i := 0) (As := [.int q]) (rest := [.int 0, .ref (a 21)]) (kX_feeder_p hl9 hA hsX0 ⟨hsP1, hsP2, hsP3, hsP4, hsP5, hsP6, hsP7, hsP8⟩ q hq) calX_feeder cvX_feeder mlL_51 hx hb hml hown hts hB hG hK hS hXS (by decide) hsX0 rfl ⟨by decide, by decide⟩ rfl hl.1 rfl (Nat.le_of_ble_eq_true rfl) dL_feeder_4 ⟨by decide, by decide⟩ (fun ce q9 H locs hG hS hce hcv hcl => ?_)
  refine vx_catch (E := eIOB) (name := eIOB) hown [] ⟨0, 9, 12, 25⟩ [] (htab.trans rfl) (fun _ h => nomatch h) (by decide) (by decide) (hts _ clL_25) (va_Nw.use rfl (hXS.2.2.2.1 (.castable eIOB eIOB) (by decide +kernel))) hce hcv hcl ?_
  refine lv_astore_n (lv' := [(3, .ref q9), (0, .ref (a 0)), (1, .int q), (2, .ref (a 21))]) hx hb dL_feeder_12 rfl hl (by decide) rfl (fun ls hl => ?_)
  refine lv_iconst (v := 1) hx hb dL_feeder_13 (by decide) ?_
  exact g_iret hQ hx hb hr hlk hG hK hS (by decide) (by decide) ⟨by first | rfl | omega | (simp_all; done) | grind, rfl⟩ dL_feeder_14

abbrev rmL_unfed_k : Room := { frames := 5, cells := 0, slots := 0, locals := 113 }
set_option maxRecDepth 100000 in
set_option maxHeartbeats 4000000 in
theorem kL_unfed_k {l : Launch} {D : va_G} {k : ClassId × ClassId × ClassId} {a : Nat → Nat} {B0 : Nat} {w : Nat → va_E} (hA : gA B0 a) {n : Nat} {up : Nat → Int64} {lo : Nat → Int64} {fa : Nat → Int32} {we : Nat → Int32} {ti : Nat → Int32} {ri : Nat → Int32} {jo : Nat → Int32} {oo : Nat → Int64} (hsX : sX k a w ) (hsP : sP k a w n up lo fa we ti ri jo) (hsO : sO k a w oo) (q : Int32) (hq : ¬ q < 0) (hn : n ≤ 12) (hjo : ∀ z, z < 144 → narrow .boolean (.int (jo z)) = .int (jo z)) : Met l yL_unfed (tbwH yL_unfed cL_unfed 4 (some .int) hh_unfed) rmL_unfed_k (gPc D k a B0 w [.ref (a 0), .int q, .ref (a 21)]) (va_Qi (fun rr9 w1 => rr9 = 0 ∧ (sO k a w1 (vp_updL oo 0 ((unF (rFeed up lo ri jo n) q n 0 0).toInt64))) ∧ ∀ z, z < 21 ∨ 21 < z → w1 z = w z) (gB D k a) (gF B0)) 0 0 (gF B0) := by
  have hsX0 := hsX
  obtain ⟨hsP1, hsP2, hsP3, hsP4, hsP5, hsP6, hsP7, hsP8⟩ := hsP
  have hsO21 := hsO
  refine h_ofW (by decide) rfl (fun p e s m args below meth c Q hQ hx hb hr hlk hml hown hts hB hG hK hS ls hl => ?_)
  have hl : lv_has ls 4 [(0, .ref (a 0)), (1, .int q), (2, .ref (a 21))] := hl
  have hown : s.vm.findClass RL = some m.cls := hown
  have hfr0 : ∀ z, z < 21 ∨ 21 < z → w z = w z := fun _ _ => rfl
  refine lv_aload_n hx hb dL_unfed_0 rfl (lv_at hl 2 rfl) ?_
  refine lv_iconst (v := 0) hx hb dL_unfed_1 (by decide) ?_
  refine lv_aload_n hx hb dL_unfed_2 rfl (lv_at hl 0 rfl) ?_
  refine lv_iload_n hx hb dL_unfed_3 rfl (lv_at hl 1 rfl) ?_
  refine g_ViR (i := 0) (As := [.int q]) (rest := [.int 0, .ref (a 21)]) (kX_unfed hA hsX0 ⟨hsP1, hsP2, hsP3, hsP4, hsP5, hsP6, hsP7, hsP8⟩ q hq hn hjo) calX_unfed cvX_unfed mlL_54 hx hb hml hown hts hB hG hK hS (by decide) hsX0 rfl ⟨by decide, by decide⟩ rfl hl.1 rfl (Nat.le_of_ble_eq_true rfl) dL_unfed_4 ⟨by decide, by decide⟩ (fun H locs hG hS => ?_)
  refine lv_i2l hx hb dL_unfed_7 rfl ?_
  refine g_last hx hb hK hA hG hS 21 (by decide) hsO21 (j := 0) (by omega) (by decide) dL_unfed_8 (fun H locs hG hS => ?_)
  obtain ⟨w1, hw2⟩ : ∃ zz9, zz9 = va_up w 21 (.inl (k.2.1, 1, .inr (.inl (vp_updL oo 0 ((unF (rFeed up lo ri jo n) q n 0 0).toInt64))))) := ⟨_, rfl⟩
  replace hG : gW D a w1 H := by rw [hw2]; exact hG
  have h3 : w1 0 = .inr (0, [.ref (a 1), .ref (a 9), .ref (a 12), .ref (a 15)]) := by rw [hw2]; exact hsX0
  have h4 : w1 1 = .inr (1, [.ref (a 2), .ref (a 3), .ref (a 4), .ref (a 5), .ref (a 6), .ref (a 7), .ref (a 8), .int (nI n)]) := by rw [hw2]; exact hsP1
  have h5 : w1 2 = .inl (k.2.1, 12, .inr (.inl up)) := by rw [hw2]; exact hsP2
  have h6 : w1 3 = .inl (k.2.1, 12, .inr (.inl lo)) := by rw [hw2]; exact hsP3
  have h7 : w1 4 = .inl (k.1, 12, .inl fa) := by rw [hw2]; exact hsP4
  have h8 : w1 5 = .inl (k.1, 72, .inl we) := by rw [hw2]; exact hsP5
  have h9 : w1 6 = .inl (k.1, 72, .inl ti) := by rw [hw2]; exact hsP6
  have h10 : w1 7 = .inl (k.1, 12, .inl ri) := by rw [hw2]; exact hsP7
  have h11 : w1 8 = .inl (k.2.2, 144, .inl jo) := by rw [hw2]; exact hsP8
  have h12 : w1 21 = .inl (k.2.1, 1, .inr (.inl (vp_updL oo 0 ((unF (rFeed up lo ri jo n) q n 0 0).toInt64)))) := by rw [hw2]; rfl
  have hfr13 : ∀ z, z < 21 ∨ 21 < z → w1 z = w z := fun z hz => by rw [hw2]; exact (va_up_ne _ _ (by omega)).trans (hfr0 z hz)
  refine lv_goto (tgt := 15) hx hb dL_unfed_9 (by decide) ?_
  refine lv_iconst (v := 0) hx hb dL_unfed_15 (by decide) ?_
  exact g_iret hQ hx hb hr hlk hG hK hS (by decide) (by decide) ⟨by first | rfl | omega | (simp_all; done) | grind, h12, hfr13⟩ dL_unfed_16

abbrev rmL_unfed_z : Room := { frames := 8, cells := 1, slots := 6, locals := 125 }
set_option maxRecDepth 100000 in
set_option maxHeartbeats 4000000 in
theorem kL_unfed_z {l : Launch} (hl9 : l.stackTraces = false) {D : va_G} {k : ClassId × ClassId × ClassId} {a : Nat → Nat} {B0 : Nat} {w : Nat → va_E} (hA : gA B0 a) {n : Nat} {up : Nat → Int64} {lo : Nat → Int64} {fa : Nat → Int32} {we : Nat → Int32} {ti : Nat → Int32} {ri : Nat → Int32} {jo : Nat → Int32} (hsX : sX k a w ) (hsP : sP k a w n up lo fa we ti ri jo) (q : Int32) (hq : q < 0) : Met l yL_unfed (tbwH yL_unfed cL_unfed 4 (some .int) hh_unfed) rmL_unfed_z (xPc D k a B0 w [.ref (a 0), .int q, .ref (a 21)]) (va_Qi (roP 1 w) (gB D k a) (gF B0)) 1 6 (gF B0) := by
  have hsX0 := hsX
  obtain ⟨hsP1, hsP2, hsP3, hsP4, hsP5, hsP6, hsP7, hsP8⟩ := hsP
  refine y_ofW (by decide) rfl (fun p e s m args below meth c Q hQ htab hx hb hr hlk hml hown hts hB hG hK hS hXS ls hl => ?_)
  have hl : lv_has ls 4 [(0, .ref (a 0)), (1, .int q), (2, .ref (a 21))] := hl
  have hown : s.vm.findClass RL = some m.cls := hown
  refine lv_aload_n hx hb dL_unfed_0 rfl (lv_at hl 2 rfl) ?_
  refine lv_iconst (v := 0) hx hb dL_unfed_1 (by decide) ?_
  refine lv_aload_n hx hb dL_unfed_2 rfl (lv_at hl 0 rfl) ?_
  refine lv_iload_n hx hb dL_unfed_3 rfl (lv_at hl 1 rfl) ?_
  refine x_VX (i := 0) (As := [.int q]) (rest := [.int 0, .ref (a 21)]) (kX_unfed_z hl9 hA hsX0 ⟨hsP1, hsP2, hsP3, hsP4, hsP5, hsP6, hsP7, hsP8⟩ q hq) calX_unfed cvX_unfed mlL_54 hx hb hml hown hts hB hG hK hS hXS (by decide) hsX0 rfl ⟨by decide, by decide⟩ rfl hl.1 rfl (Nat.le_of_ble_eq_true rfl) dL_unfed_4 ⟨by decide, by decide⟩ (fun ce q9 H locs hG hS hce hcv hcl => ?_)
  refine vx_catch (E := eIOB) (name := eIOB) hown [] ⟨0, 9, 12, 25⟩ [] (htab.trans rfl) (fun _ h => nomatch h) (by decide) (by decide) (hts _ clL_25) (va_Nw.use rfl (hXS.2.2.2.1 (.castable eIOB eIOB) (by decide +kernel))) hce hcv hcl ?_
  refine lv_astore_n (lv' := [(3, .ref q9), (0, .ref (a 0)), (1, .int q), (2, .ref (a 21))]) hx hb dL_unfed_12 rfl hl (by decide) rfl (fun ls hl => ?_)
  refine lv_iconst (v := 1) hx hb dL_unfed_13 (by decide) ?_
  exact g_iret hQ hx hb hr hlk hG hK hS (by decide) (by decide) ⟨by first | rfl | omega | (simp_all; done) | grind, rfl⟩ dL_unfed_14

abbrev rmL_flowRow_k : Room := { frames := 2, cells := 0, slots := 0, locals := 44 }
set_option maxRecDepth 100000 in
set_option maxHeartbeats 4000000 in
theorem kL_flowRow_k {l : Launch} {D : va_G} {k : ClassId × ClassId × ClassId} {a : Nat → Nat} {B0 : Nat} {w : Nat → va_E} (hA : gA B0 a) {nf : Nat} {fo : Nat → Int32} {ff : Nat → Int32} {oo : Nat → Int64} (hsX : sX k a w ) (hsF : sF k a w nf fo ff) (hsO : sO k a w oo) (q : Int32) (f : Int32) (hn : nf < 8) (h1 : opR q) (h2 : flR f) (hm : nf = 0 ∨ (¬ q ≤ fo (nf - 1) ∧ ¬ f < ff (nf - 1))) : Met l yL_flowRow (tbwH yL_flowRow cL_flowRow 5 (some .int) hh_flowRow) rmL_flowRow_k (gPc D k a B0 w [.ref (a 0), .int q, .int f, .ref (a 21)]) (va_Qi (fun rr9 w1 => rr9 = 0 ∧ (sF k a w1 (nf + 1) (upd fo nf q) (upd ff nf f)) ∧ (sO k a w1 (vp_updL oo 0 ((nI (nf + 1)).toInt64))) ∧ ∀ z, (z < 12 ∨ 14 < z) ∧ z ≠ 21 → w1 z = w z) (gB D k a) (gF B0)) 0 0 (gF B0) := by
  have hsX0 := hsX
  obtain ⟨hsF12, hsF13, hsF14⟩ := hsF
  have hsO21 := hsO
  refine h_ofW (by decide) rfl (fun p e s m args below meth c Q hQ hx hb hr hlk hml hown hts hB hG hK hS ls hl => ?_)
  have hl : lv_has ls 5 [(0, .ref (a 0)), (1, .int q), (2, .int f), (3, .ref (a 21))] := hl
  have hown : s.vm.findClass RL = some m.cls := hown
  have hfr0 : ∀ z, (z < 12 ∨ 14 < z) ∧ z ≠ 21 → w z = w z := fun _ _ => rfl
  refine lv_aload_n hx hb dL_flowRow_0 rfl (lv_at hl 3 rfl) ?_
  refine lv_iconst (v := 0) hx hb dL_flowRow_1 (by decide) ?_
  refine lv_aload_n hx hb dL_flowRow_2 rfl (lv_at hl 0 rfl) ?_
  refine lv_iload_n hx hb dL_flowRow_3 rfl (lv_at hl 1 rfl) ?_
  refine lv_iload_n hx hb dL_flowRow_4 rfl (lv_at hl 2 rfl) ?_
  refine g_Vi (i := 0) (As := [.int q, .int f]) (rest := [.int 0, .ref (a 21)]) (kX_flowRow hA hsX0 ⟨hsF12, hsF13, hsF14⟩ q f hn h1 h2 hm) calX_flowRow cvX_flowRow mlL_57 hx hb hml hown hts hB hG hK hS (by decide) hsX0 rfl ⟨by decide, by decide⟩ rfl hl.1 rfl (Nat.le_of_ble_eq_true rfl) dL_flowRow_5 ⟨by decide, by decide⟩ (fun r1 w2 H locs hp3 hG hS => ?_)
  obtain ⟨er7, ⟨h4, h5, h6⟩, hfr8⟩ := hp3
  have h9 : w2 0 = .inr (0, [.ref (a 1), .ref (a 9), .ref (a 12), .ref (a 15)]) := (hfr8 0 (by omega)).trans hsX0
  have h10 : w2 21 = .inl (k.2.1, 1, .inr (.inl oo)) := (hfr8 21 (by omega)).trans hsO21
  have hfr11 : ∀ z, (z < 12 ∨ 14 < z) ∧ z ≠ 21 → w2 z = w z := fun z hz => (hfr8 z (by omega)).trans (hfr0 z hz)
  rw [er7]
  refine lv_i2l hx hb dL_flowRow_8 rfl ?_
  refine g_last hx hb hK hA hG hS 21 (by decide) h10 (j := 0) (by omega) (by decide) dL_flowRow_9 (fun H locs hG hS => ?_)
  obtain ⟨w12, hw13⟩ : ∃ zz9, zz9 = va_up w2 21 (.inl (k.2.1, 1, .inr (.inl (vp_updL oo 0 ((nI (nf + 1)).toInt64))))) := ⟨_, rfl⟩
  replace hG : gW D a w12 H := by rw [hw13]; exact hG
  have h14 : w12 0 = .inr (0, [.ref (a 1), .ref (a 9), .ref (a 12), .ref (a 15)]) := by rw [hw13]; exact h9
  have h15 : w12 12 = .inr (3, [.ref (a 13), .ref (a 14), .int (nI (nf + 1))]) := by rw [hw13]; exact h4
  have h16 : w12 13 = .inl (k.1, 8, .inl (upd fo nf q)) := by rw [hw13]; exact h5
  have h17 : w12 14 = .inl (k.1, 8, .inl (upd ff nf f)) := by rw [hw13]; exact h6
  have h18 : w12 21 = .inl (k.2.1, 1, .inr (.inl (vp_updL oo 0 ((nI (nf + 1)).toInt64)))) := by rw [hw13]; rfl
  have hfr19 : ∀ z, (z < 12 ∨ 14 < z) ∧ z ≠ 21 → w12 z = w z := fun z hz => by rw [hw13]; exact (va_up_ne _ _ (by omega)).trans (hfr11 z hz)
  refine lv_goto (tgt := 25) hx hb dL_flowRow_10 (by decide) ?_
  refine lv_iconst (v := 0) hx hb dL_flowRow_25 (by decide) ?_
  exact g_iret hQ hx hb hr hlk hG hK hS (by decide) (by decide) ⟨by first | rfl | omega | (simp_all; done) | grind, ⟨h15, h16, h17⟩, h18, hfr19⟩ dL_flowRow_26

abbrev rmL_flowRow_f : Room := { frames := 8, cells := 1, slots := 6, locals := 124 }
set_option maxRecDepth 100000 in
set_option maxHeartbeats 4000000 in
theorem kL_flowRow_f {l : Launch} (hl9 : l.stackTraces = false) {D : va_G} {k : ClassId × ClassId × ClassId} {a : Nat → Nat} {B0 : Nat} {w : Nat → va_E} (hA : gA B0 a) {nf : Nat} {fo : Nat → Int32} {ff : Nat → Int32} (hsX : sX k a w ) (hsF : sF k a w nf fo ff) (q : Int32) (f : Int32) (hn : nf = 8) : Met l yL_flowRow (tbwH yL_flowRow cL_flowRow 5 (some .int) hh_flowRow) rmL_flowRow_f (xPc D k a B0 w [.ref (a 0), .int q, .int f, .ref (a 21)]) (va_Qi (roP 1 w) (gB D k a) (gF B0)) 1 6 (gF B0) := by
  have hsX0 := hsX
  obtain ⟨hsF12, hsF13, hsF14⟩ := hsF
  refine y_ofW (by decide) rfl (fun p e s m args below meth c Q hQ htab hx hb hr hlk hml hown hts hB hG hK hS hXS ls hl => ?_)
  have hl : lv_has ls 5 [(0, .ref (a 0)), (1, .int q), (2, .int f), (3, .ref (a 21))] := hl
  have hown : s.vm.findClass RL = some m.cls := hown
  refine lv_aload_n hx hb dL_flowRow_0 rfl (lv_at hl 3 rfl) ?_
  refine lv_iconst (v := 0) hx hb dL_flowRow_1 (by decide) ?_
  refine lv_aload_n hx hb dL_flowRow_2 rfl (lv_at hl 0 rfl) ?_
  refine lv_iload_n hx hb dL_flowRow_3 rfl (lv_at hl 1 rfl) ?_
  refine lv_iload_n hx hb dL_flowRow_4 rfl (lv_at hl 2 rfl) ?_
  refine x_VX (i := 0) (As := [.int q, .int f]) (rest := [.int 0, .ref (a 21)]) (kX_flowRow_f hl9 hA hsX0 ⟨hsF12, hsF13, hsF14⟩ q f hn) calX_flowRow cvX_flowRow mlL_57 hx hb hml hown hts hB hG hK hS hXS (by decide) hsX0 rfl ⟨by decide, by decide⟩ rfl hl.1 rfl (Nat.le_of_ble_eq_true rfl) dL_flowRow_5 ⟨by decide, by decide⟩ (fun ce q9 H locs hG hS hce hcv hcl => ?_)
  refine vx_catch (E := eISE) (name := eISE) hown [] ⟨0, 10, 13, 13⟩ [⟨0, 10, 17, 15⟩, ⟨0, 10, 21, 31⟩] (htab.trans rfl) (fun _ h => nomatch h) (by decide) (by decide) (hts _ clL_13) (va_Nw.use rfl (hXS.2.2.2.1 (.castable eISE eISE) (by decide +kernel))) hce hcv hcl ?_
  refine lv_astore (lv' := [(4, .ref q9), (0, .ref (a 0)), (1, .int q), (2, .int f), (3, .ref (a 21))]) hx hb dL_flowRow_13 hl (by decide) rfl (fun ls hl => ?_)
  refine lv_iconst (v := 1) hx hb dL_flowRow_15 (by decide) ?_
  exact g_iret hQ hx hb hr hlk hG hK hS (by decide) (by decide) ⟨by first | rfl | omega | (simp_all; done) | grind, rfl⟩ dL_flowRow_16

abbrev rmL_flowRow_z : Room := { frames := 8, cells := 1, slots := 6, locals := 124 }
set_option maxRecDepth 100000 in
set_option maxHeartbeats 4000000 in
theorem kL_flowRow_z {l : Launch} (hl9 : l.stackTraces = false) {D : va_G} {k : ClassId × ClassId × ClassId} {a : Nat → Nat} {B0 : Nat} {w : Nat → va_E} (hA : gA B0 a) {nf : Nat} {fo : Nat → Int32} {ff : Nat → Int32} (hsX : sX k a w ) (hsF : sF k a w nf fo ff) (q : Int32) (f : Int32) (hn : nf < 8) (hz : ¬ (opR q ∧ flR f)) : Met l yL_flowRow (tbwH yL_flowRow cL_flowRow 5 (some .int) hh_flowRow) rmL_flowRow_z (xPc D k a B0 w [.ref (a 0), .int q, .int f, .ref (a 21)]) (va_Qi (roP 2 w) (gB D k a) (gF B0)) 1 6 (gF B0) := by
  have hsX0 := hsX
  obtain ⟨hsF12, hsF13, hsF14⟩ := hsF
  refine y_ofW (by decide) rfl (fun p e s m args below meth c Q hQ htab hx hb hr hlk hml hown hts hB hG hK hS hXS ls hl => ?_)
  have hl : lv_has ls 5 [(0, .ref (a 0)), (1, .int q), (2, .int f), (3, .ref (a 21))] := hl
  have hown : s.vm.findClass RL = some m.cls := hown
  refine lv_aload_n hx hb dL_flowRow_0 rfl (lv_at hl 3 rfl) ?_
  refine lv_iconst (v := 0) hx hb dL_flowRow_1 (by decide) ?_
  refine lv_aload_n hx hb dL_flowRow_2 rfl (lv_at hl 0 rfl) ?_
  refine lv_iload_n hx hb dL_flowRow_3 rfl (lv_at hl 1 rfl) ?_
  refine lv_iload_n hx hb dL_flowRow_4 rfl (lv_at hl 2 rfl) ?_
  refine x_VX (i := 0) (As := [.int q, .int f]) (rest := [.int 0, .ref (a 21)]) (kX_flowRow_z hl9 hA hsX0 ⟨hsF12, hsF13, hsF14⟩ q f hn hz) calX_flowRow cvX_flowRow mlL_57 hx hb hml hown hts hB hG hK hS hXS (by decide) hsX0 rfl ⟨by decide, by decide⟩ rfl hl.1 rfl (Nat.le_of_ble_eq_true rfl) dL_flowRow_5 ⟨by decide, by decide⟩ (fun ce q9 H locs hG hS hce hcv hcl => ?_)
  refine vx_catch (E := eIAE) (name := eIAE) hown [⟨0, 10, 13, 13⟩] ⟨0, 10, 17, 15⟩ [⟨0, 10, 21, 31⟩] (htab.trans rfl) (List.forall_mem_cons.mpr ⟨Or.inr ⟨by decide, eISE, hts _ clL_13, hXS.2.2.2.2 (eIAE, eISE) (by decide +kernel)⟩, (fun _ h => nomatch h)⟩) (by decide) (by decide) (hts _ clL_15) (va_Nw.use rfl (hXS.2.2.2.1 (.castable eIAE eIAE) (by decide +kernel))) hce hcv hcl ?_
  refine lv_astore (lv' := [(4, .ref q9), (0, .ref (a 0)), (1, .int q), (2, .int f), (3, .ref (a 21))]) hx hb dL_flowRow_17 hl (by decide) rfl (fun ls hl => ?_)
  refine lv_iconst (v := 2) hx hb dL_flowRow_19 (by decide) ?_
  exact g_iret hQ hx hb hr hlk hG hK hS (by decide) (by decide) ⟨by first | rfl | omega | (simp_all; done) | grind, rfl⟩ dL_flowRow_20

abbrev rmL_flowRow_m : Room := { frames := 8, cells := 1, slots := 6, locals := 124 }
set_option maxRecDepth 100000 in
set_option maxHeartbeats 4000000 in
theorem kL_flowRow_m {l : Launch} (hl9 : l.stackTraces = false) {D : va_G} {k : ClassId × ClassId × ClassId} {a : Nat → Nat} {B0 : Nat} {w : Nat → va_E} (hA : gA B0 a) {nf : Nat} {fo : Nat → Int32} {ff : Nat → Int32} (hsX : sX k a w ) (hsF : sF k a w nf fo ff) (q : Int32) (f : Int32) (hn : nf < 8) (h1 : opR q) (h2 : flR f) (hm : ¬ (nf = 0 ∨ (¬ q ≤ fo (nf - 1) ∧ ¬ f < ff (nf - 1)))) : Met l yL_flowRow (tbwH yL_flowRow cL_flowRow 5 (some .int) hh_flowRow) rmL_flowRow_m (xPc D k a B0 w [.ref (a 0), .int q, .int f, .ref (a 21)]) (va_Qi (roP 3 w) (gB D k a) (gF B0)) 1 6 (gF B0) := by
  have hsX0 := hsX
  obtain ⟨hsF12, hsF13, hsF14⟩ := hsF
  refine y_ofW (by decide) rfl (fun p e s m args below meth c Q hQ htab hx hb hr hlk hml hown hts hB hG hK hS hXS ls hl => ?_)
  have hl : lv_has ls 5 [(0, .ref (a 0)), (1, .int q), (2, .int f), (3, .ref (a 21))] := hl
  have hown : s.vm.findClass RL = some m.cls := hown
  refine lv_aload_n hx hb dL_flowRow_0 rfl (lv_at hl 3 rfl) ?_
  refine lv_iconst (v := 0) hx hb dL_flowRow_1 (by decide) ?_
  refine lv_aload_n hx hb dL_flowRow_2 rfl (lv_at hl 0 rfl) ?_
  refine lv_iload_n hx hb dL_flowRow_3 rfl (lv_at hl 1 rfl) ?_
  refine lv_iload_n hx hb dL_flowRow_4 rfl (lv_at hl 2 rfl) ?_
  refine x_VX (i := 0) (As := [.int q, .int f]) (rest := [.int 0, .ref (a 21)]) (kX_flowRow_m hl9 hA hsX0 ⟨hsF12, hsF13, hsF14⟩ q f hn h1 h2 hm) calX_flowRow cvX_flowRow mlL_57 hx hb hml hown hts hB hG hK hS hXS (by decide) hsX0 rfl ⟨by decide, by decide⟩ rfl hl.1 rfl (Nat.le_of_ble_eq_true rfl) dL_flowRow_5 ⟨by decide, by decide⟩ (fun ce q9 H locs hG hS hce hcv hcl => ?_)
  refine vx_catch (E := eUOE) (name := eUOE) hown [⟨0, 10, 13, 13⟩, ⟨0, 10, 17, 15⟩] ⟨0, 10, 21, 31⟩ [] (htab.trans rfl) (List.forall_mem_cons.mpr ⟨Or.inr ⟨by decide, eISE, hts _ clL_13, hXS.2.2.2.2 (eUOE, eISE) (by decide +kernel)⟩, (List.forall_mem_cons.mpr ⟨Or.inr ⟨by decide, eIAE, hts _ clL_15, hXS.2.2.2.2 (eUOE, eIAE) (by decide +kernel)⟩, (fun _ h => nomatch h)⟩)⟩) (by decide) (by decide) (hts _ clL_31) (va_Nw.use rfl (hXS.2.2.2.1 (.castable eUOE eUOE) (by decide +kernel))) hce hcv hcl ?_
  refine lv_astore (lv' := [(4, .ref q9), (0, .ref (a 0)), (1, .int q), (2, .int f), (3, .ref (a 21))]) hx hb dL_flowRow_21 hl (by decide) rfl (fun ls hl => ?_)
  refine lv_iconst (v := 3) hx hb dL_flowRow_23 (by decide) ?_
  exact g_iret hQ hx hb hr hlk hG hK hS (by decide) (by decide) ⟨by first | rfl | omega | (simp_all; done) | grind, rfl⟩ dL_flowRow_24

abbrev rmL_flow_k : Room := { frames := 3, cells := 0, slots := 0, locals := 70 }
set_option maxRecDepth 100000 in
set_option maxHeartbeats 4000000 in
theorem kL_flow_k {l : Launch} {D : va_G} {k : ClassId × ClassId × ClassId} {a : Nat → Nat} {B0 : Nat} {w : Nat → va_E} (hA : gA B0 a) {nf : Nat} {fo : Nat → Int32} {ff : Nat → Int32} {oo : Nat → Int64} (hsX : sX k a w ) (hsF : sF k a w nf fo ff) (hsO : sO k a w oo) (q : Int32) (h0 : 0 < nf) (hn : nf ≤ 8) (h1 : opR q) : Met l yL_flow (tbwH yL_flow cL_flow 4 (some .int) hh_flow) rmL_flow_k (gPc D k a B0 w [.ref (a 0), .int q, .ref (a 21)]) (va_Qi (fun rr9 w1 => rr9 = 0 ∧ (sO k a w1 (vp_updL oo 0 ((flAt fo ff nf q).toInt64))) ∧ ∀ z, z < 21 ∨ 21 < z → w1 z = w z) (gB D k a) (gF B0)) 0 0 (gF B0) := by
  have hsX0 := hsX
  obtain ⟨hsF12, hsF13, hsF14⟩ := hsF
  have hsO21 := hsO
  refine h_ofW (by decide) rfl (fun p e s m args below meth c Q hQ hx hb hr hlk hml hown hts hB hG hK hS ls hl => ?_)
  have hl : lv_has ls 4 [(0, .ref (a 0)), (1, .int q), (2, .ref (a 21))] := hl
  have hown : s.vm.findClass RL = some m.cls := hown
  have hfr0 : ∀ z, z < 21 ∨ 21 < z → w z = w z := fun _ _ => rfl
  refine lv_aload_n hx hb dL_flow_0 rfl (lv_at hl 2 rfl) ?_
  refine lv_iconst (v := 0) hx hb dL_flow_1 (by decide) ?_
  refine lv_aload_n hx hb dL_flow_2 rfl (lv_at hl 0 rfl) ?_
  refine lv_iload_n hx hb dL_flow_3 rfl (lv_at hl 1 rfl) ?_
  refine g_ViR (i := 0) (As := [.int q]) (rest := [.int 0, .ref (a 21)]) (kX_flow hA hsX0 ⟨hsF12, hsF13, hsF14⟩ q h0 hn h1) calX_flow cvX_flow mlL_60 hx hb hml hown hts hB hG hK hS (by decide) hsX0 rfl ⟨by decide, by decide⟩ rfl hl.1 rfl (Nat.le_of_ble_eq_true rfl) dL_flow_4 ⟨by decide, by decide⟩ (fun H locs hG hS => ?_)
  refine lv_i2l hx hb dL_flow_7 rfl ?_
  refine g_last hx hb hK hA hG hS 21 (by decide) hsO21 (j := 0) (by omega) (by decide) dL_flow_8 (fun H locs hG hS => ?_)
  obtain ⟨w1, hw2⟩ : ∃ zz9, zz9 = va_up w 21 (.inl (k.2.1, 1, .inr (.inl (vp_updL oo 0 ((flAt fo ff nf q).toInt64))))) := ⟨_, rfl⟩
  replace hG : gW D a w1 H := by rw [hw2]; exact hG
  have h3 : w1 0 = .inr (0, [.ref (a 1), .ref (a 9), .ref (a 12), .ref (a 15)]) := by rw [hw2]; exact hsX0
  have h4 : w1 12 = .inr (3, [.ref (a 13), .ref (a 14), .int (nI nf)]) := by rw [hw2]; exact hsF12
  have h5 : w1 13 = .inl (k.1, 8, .inl fo) := by rw [hw2]; exact hsF13
  have h6 : w1 14 = .inl (k.1, 8, .inl ff) := by rw [hw2]; exact hsF14
  have h7 : w1 21 = .inl (k.2.1, 1, .inr (.inl (vp_updL oo 0 ((flAt fo ff nf q).toInt64)))) := by rw [hw2]; rfl
  have hfr8 : ∀ z, z < 21 ∨ 21 < z → w1 z = w z := fun z hz => by rw [hw2]; exact (va_up_ne _ _ (by omega)).trans (hfr0 z hz)
  refine lv_goto (tgt := 18) hx hb dL_flow_9 (by decide) ?_
  refine lv_iconst (v := 0) hx hb dL_flow_18 (by decide) ?_
  exact g_iret hQ hx hb hr hlk hG hK hS (by decide) (by decide) ⟨by first | rfl | omega | (simp_all; done) | grind, h7, hfr8⟩ dL_flow_19

abbrev rmL_flow_f : Room := { frames := 8, cells := 1, slots := 6, locals := 123 }
set_option maxRecDepth 100000 in
set_option maxHeartbeats 4000000 in
theorem kL_flow_f {l : Launch} (hl9 : l.stackTraces = false) {D : va_G} {k : ClassId × ClassId × ClassId} {a : Nat → Nat} {B0 : Nat} {w : Nat → va_E} (hA : gA B0 a) {nf : Nat} {fo : Nat → Int32} {ff : Nat → Int32} (hsX : sX k a w ) (hsF : sF k a w nf fo ff) (q : Int32) (h0 : nf = 0) : Met l yL_flow (tbwH yL_flow cL_flow 4 (some .int) hh_flow) rmL_flow_f (xPc D k a B0 w [.ref (a 0), .int q, .ref (a 21)]) (va_Qi (roP 1 w) (gB D k a) (gF B0)) 1 6 (gF B0) := by
  have hsX0 := hsX
  obtain ⟨hsF12, hsF13, hsF14⟩ := hsF
  refine y_ofW (by decide) rfl (fun p e s m args below meth c Q hQ htab hx hb hr hlk hml hown hts hB hG hK hS hXS ls hl => ?_)
  have hl : lv_has ls 4 [(0, .ref (a 0)), (1, .int q), (2, .ref (a 21))] := hl
  have hown : s.vm.findClass RL = some m.cls := hown
  refine lv_aload_n hx hb dL_flow_0 rfl (lv_at hl 2 rfl) ?_
  refine lv_iconst (v := 0) hx hb dL_flow_1 (by decide) ?_
  refine lv_aload_n hx hb dL_flow_2 rfl (lv_at hl 0 rfl) ?_
  refine lv_iload_n hx hb dL_flow_3 rfl (lv_at hl 1 rfl) ?_
  refine x_VX (i := 0) (As := [.int q]) (rest := [.int 0, .ref (a 21)]) (kX_flow_f hl9 hA hsX0 ⟨hsF12, hsF13, hsF14⟩ q h0) calX_flow cvX_flow mlL_60 hx hb hml hown hts hB hG hK hS hXS (by decide) hsX0 rfl ⟨by decide, by decide⟩ rfl hl.1 rfl (Nat.le_of_ble_eq_true rfl) dL_flow_4 ⟨by decide, by decide⟩ (fun ce q9 H locs hG hS hce hcv hcl => ?_)
  refine vx_catch (E := eISE) (name := eISE) hown [] ⟨0, 9, 12, 13⟩ [⟨0, 9, 15, 15⟩] (htab.trans rfl) (fun _ h => nomatch h) (by decide) (by decide) (hts _ clL_13) (va_Nw.use rfl (hXS.2.2.2.1 (.castable eISE eISE) (by decide +kernel))) hce hcv hcl ?_
  refine lv_astore_n (lv' := [(3, .ref q9), (0, .ref (a 0)), (1, .int q), (2, .ref (a 21))]) hx hb dL_flow_12 rfl hl (by decide) rfl (fun ls hl => ?_)
  refine lv_iconst (v := 1) hx hb dL_flow_13 (by decide) ?_
  exact g_iret hQ hx hb hr hlk hG hK hS (by decide) (by decide) ⟨by first | rfl | omega | (simp_all; done) | grind, rfl⟩ dL_flow_14

abbrev rmL_flow_z : Room := { frames := 8, cells := 1, slots := 6, locals := 123 }
set_option maxRecDepth 100000 in
set_option maxHeartbeats 4000000 in
theorem kL_flow_z {l : Launch} (hl9 : l.stackTraces = false) {D : va_G} {k : ClassId × ClassId × ClassId} {a : Nat → Nat} {B0 : Nat} {w : Nat → va_E} (hA : gA B0 a) {nf : Nat} {fo : Nat → Int32} {ff : Nat → Int32} (hsX : sX k a w ) (hsF : sF k a w nf fo ff) (q : Int32) (h0 : 0 < nf) (hn : nf ≤ 8) (h1 : ¬ opR q) : Met l yL_flow (tbwH yL_flow cL_flow 4 (some .int) hh_flow) rmL_flow_z (xPc D k a B0 w [.ref (a 0), .int q, .ref (a 21)]) (va_Qi (roP 2 w) (gB D k a) (gF B0)) 1 6 (gF B0) := by
  have hsX0 := hsX
  obtain ⟨hsF12, hsF13, hsF14⟩ := hsF
  refine y_ofW (by decide) rfl (fun p e s m args below meth c Q hQ htab hx hb hr hlk hml hown hts hB hG hK hS hXS ls hl => ?_)
  have hl : lv_has ls 4 [(0, .ref (a 0)), (1, .int q), (2, .ref (a 21))] := hl
  have hown : s.vm.findClass RL = some m.cls := hown
  refine lv_aload_n hx hb dL_flow_0 rfl (lv_at hl 2 rfl) ?_
  refine lv_iconst (v := 0) hx hb dL_flow_1 (by decide) ?_
  refine lv_aload_n hx hb dL_flow_2 rfl (lv_at hl 0 rfl) ?_
  refine lv_iload_n hx hb dL_flow_3 rfl (lv_at hl 1 rfl) ?_
  refine x_VX (i := 0) (As := [.int q]) (rest := [.int 0, .ref (a 21)]) (kX_flow_z hl9 hA hsX0 ⟨hsF12, hsF13, hsF14⟩ q h0 hn h1) calX_flow cvX_flow mlL_60 hx hb hml hown hts hB hG hK hS hXS (by decide) hsX0 rfl ⟨by decide, by decide⟩ rfl hl.1 rfl (Nat.le_of_ble_eq_true rfl) dL_flow_4 ⟨by decide, by decide⟩ (fun ce q9 H locs hG hS hce hcv hcl => ?_)
  refine vx_catch (E := eIAE) (name := eIAE) hown [⟨0, 9, 12, 13⟩] ⟨0, 9, 15, 15⟩ [] (htab.trans rfl) (List.forall_mem_cons.mpr ⟨Or.inr ⟨by decide, eISE, hts _ clL_13, hXS.2.2.2.2 (eIAE, eISE) (by decide +kernel)⟩, (fun _ h => nomatch h)⟩) (by decide) (by decide) (hts _ clL_15) (va_Nw.use rfl (hXS.2.2.2.1 (.castable eIAE eIAE) (by decide +kernel))) hce hcv hcl ?_
  refine lv_astore_n (lv' := [(3, .ref q9), (0, .ref (a 0)), (1, .int q), (2, .ref (a 21))]) hx hb dL_flow_15 rfl hl (by decide) rfl (fun ls hl => ?_)
  refine lv_iconst (v := 2) hx hb dL_flow_16 (by decide) ?_
  exact g_iret hQ hx hb hr hlk hG hK hS (by decide) (by decide) ⟨by first | rfl | omega | (simp_all; done) | grind, rfl⟩ dL_flow_17

abbrev rmL_gate_k : Room := { frames := 4, cells := 0, slots := 0, locals := 95 }
set_option maxRecDepth 100000 in
set_option maxHeartbeats 4000000 in
theorem kL_gate_k {l : Launch} {D : va_G} {k : ClassId × ClassId × ClassId} {a : Nat → Nat} {B0 : Nat} {w : Nat → va_E} (hA : gA B0 a) {nf : Nat} {fo : Nat → Int32} {ff : Nat → Int32} {oo : Nat → Int64} (hsX : sX k a w ) (hsF : sF k a w nf fo ff) (hsO : sO k a w oo) (q : Int32) (h0 : 0 < nf) (hn : nf ≤ 8) (h1 : flR q) (hm : q ≤ flAt fo ff nf 10000) : Met l yL_gate (tbwH yL_gate cL_gate 4 (some .int) hh_gate) rmL_gate_k (gPc D k a B0 w [.ref (a 0), .int q, .ref (a 21)]) (va_Qi (fun rr9 w1 => rr9 = 0 ∧ (sO k a w1 (vp_updL oo 0 ((nI (gaF (flAt fo ff nf) q 100 0 10000)).toInt64))) ∧ ∀ z, z < 21 ∨ 21 < z → w1 z = w z) (gB D k a) (gF B0)) 0 0 (gF B0) := by
  have hsX0 := hsX
  obtain ⟨hsF12, hsF13, hsF14⟩ := hsF
  have hsO21 := hsO
  refine h_ofW (by decide) rfl (fun p e s m args below meth c Q hQ hx hb hr hlk hml hown hts hB hG hK hS ls hl => ?_)
  have hl : lv_has ls 4 [(0, .ref (a 0)), (1, .int q), (2, .ref (a 21))] := hl
  have hown : s.vm.findClass RL = some m.cls := hown
  have hfr0 : ∀ z, z < 21 ∨ 21 < z → w z = w z := fun _ _ => rfl
  refine lv_aload_n hx hb dL_gate_0 rfl (lv_at hl 2 rfl) ?_
  refine lv_iconst (v := 0) hx hb dL_gate_1 (by decide) ?_
  refine lv_aload_n hx hb dL_gate_2 rfl (lv_at hl 0 rfl) ?_
  refine lv_iload_n hx hb dL_gate_3 rfl (lv_at hl 1 rfl) ?_
  refine g_ViR (i := 0) (As := [.int q]) (rest := [.int 0, .ref (a 21)]) (kX_gate hA hsX0 ⟨hsF12, hsF13, hsF14⟩ q h0 hn h1 hm) calX_gate cvX_gate mlL_63 hx hb hml hown hts hB hG hK hS (by decide) hsX0 rfl ⟨by decide, by decide⟩ rfl hl.1 rfl (Nat.le_of_ble_eq_true rfl) dL_gate_4 ⟨by decide, by decide⟩ (fun H locs hG hS => ?_)
  refine lv_i2l hx hb dL_gate_7 rfl ?_
  refine g_last hx hb hK hA hG hS 21 (by decide) hsO21 (j := 0) (by omega) (by decide) dL_gate_8 (fun H locs hG hS => ?_)
  obtain ⟨w1, hw2⟩ : ∃ zz9, zz9 = va_up w 21 (.inl (k.2.1, 1, .inr (.inl (vp_updL oo 0 ((nI (gaF (flAt fo ff nf) q 100 0 10000)).toInt64))))) := ⟨_, rfl⟩
  replace hG : gW D a w1 H := by rw [hw2]; exact hG
  have h3 : w1 0 = .inr (0, [.ref (a 1), .ref (a 9), .ref (a 12), .ref (a 15)]) := by rw [hw2]; exact hsX0
  have h4 : w1 12 = .inr (3, [.ref (a 13), .ref (a 14), .int (nI nf)]) := by rw [hw2]; exact hsF12
  have h5 : w1 13 = .inl (k.1, 8, .inl fo) := by rw [hw2]; exact hsF13
  have h6 : w1 14 = .inl (k.1, 8, .inl ff) := by rw [hw2]; exact hsF14
  have h7 : w1 21 = .inl (k.2.1, 1, .inr (.inl (vp_updL oo 0 ((nI (gaF (flAt fo ff nf) q 100 0 10000)).toInt64)))) := by rw [hw2]; rfl
  have hfr8 : ∀ z, z < 21 ∨ 21 < z → w1 z = w z := fun z hz => by rw [hw2]; exact (va_up_ne _ _ (by omega)).trans (hfr0 z hz)
  refine lv_goto (tgt := 21) hx hb dL_gate_9 (by decide) ?_
  refine lv_iconst (v := 0) hx hb dL_gate_21 (by decide) ?_
  exact g_iret hQ hx hb hr hlk hG hK hS (by decide) (by decide) ⟨by first | rfl | omega | (simp_all; done) | grind, h7, hfr8⟩ dL_gate_22

abbrev rmL_gate_f : Room := { frames := 8, cells := 1, slots := 6, locals := 123 }
set_option maxRecDepth 100000 in
set_option maxHeartbeats 4000000 in
theorem kL_gate_f {l : Launch} (hl9 : l.stackTraces = false) {D : va_G} {k : ClassId × ClassId × ClassId} {a : Nat → Nat} {B0 : Nat} {w : Nat → va_E} (hA : gA B0 a) {nf : Nat} {fo : Nat → Int32} {ff : Nat → Int32} (hsX : sX k a w ) (hsF : sF k a w nf fo ff) (q : Int32) (h0 : nf = 0) : Met l yL_gate (tbwH yL_gate cL_gate 4 (some .int) hh_gate) rmL_gate_f (xPc D k a B0 w [.ref (a 0), .int q, .ref (a 21)]) (va_Qi (roP 1 w) (gB D k a) (gF B0)) 1 6 (gF B0) := by
  have hsX0 := hsX
  obtain ⟨hsF12, hsF13, hsF14⟩ := hsF
  refine y_ofW (by decide) rfl (fun p e s m args below meth c Q hQ htab hx hb hr hlk hml hown hts hB hG hK hS hXS ls hl => ?_)
  have hl : lv_has ls 4 [(0, .ref (a 0)), (1, .int q), (2, .ref (a 21))] := hl
  have hown : s.vm.findClass RL = some m.cls := hown
  refine lv_aload_n hx hb dL_gate_0 rfl (lv_at hl 2 rfl) ?_
  refine lv_iconst (v := 0) hx hb dL_gate_1 (by decide) ?_
  refine lv_aload_n hx hb dL_gate_2 rfl (lv_at hl 0 rfl) ?_
  refine lv_iload_n hx hb dL_gate_3 rfl (lv_at hl 1 rfl) ?_
  refine x_VX (i := 0) (As := [.int q]) (rest := [.int 0, .ref (a 21)]) (kX_gate_f hl9 hA hsX0 ⟨hsF12, hsF13, hsF14⟩ q h0) calX_gate cvX_gate mlL_63 hx hb hml hown hts hB hG hK hS hXS (by decide) hsX0 rfl ⟨by decide, by decide⟩ rfl hl.1 rfl (Nat.le_of_ble_eq_true rfl) dL_gate_4 ⟨by decide, by decide⟩ (fun ce q9 H locs hG hS hce hcv hcl => ?_)
  refine vx_catch (E := eISE) (name := eISE) hown [] ⟨0, 9, 12, 13⟩ [⟨0, 9, 15, 15⟩, ⟨0, 9, 18, 31⟩] (htab.trans rfl) (fun _ h => nomatch h) (by decide) (by decide) (hts _ clL_13) (va_Nw.use rfl (hXS.2.2.2.1 (.castable eISE eISE) (by decide +kernel))) hce hcv hcl ?_
  refine lv_astore_n (lv' := [(3, .ref q9), (0, .ref (a 0)), (1, .int q), (2, .ref (a 21))]) hx hb dL_gate_12 rfl hl (by decide) rfl (fun ls hl => ?_)
  refine lv_iconst (v := 1) hx hb dL_gate_13 (by decide) ?_
  exact g_iret hQ hx hb hr hlk hG hK hS (by decide) (by decide) ⟨by first | rfl | omega | (simp_all; done) | grind, rfl⟩ dL_gate_14

abbrev rmL_gate_z : Room := { frames := 8, cells := 1, slots := 6, locals := 123 }
set_option maxRecDepth 100000 in
set_option maxHeartbeats 4000000 in
theorem kL_gate_z {l : Launch} (hl9 : l.stackTraces = false) {D : va_G} {k : ClassId × ClassId × ClassId} {a : Nat → Nat} {B0 : Nat} {w : Nat → va_E} (hA : gA B0 a) {nf : Nat} {fo : Nat → Int32} {ff : Nat → Int32} (hsX : sX k a w ) (hsF : sF k a w nf fo ff) (q : Int32) (h0 : 0 < nf) (hn : nf ≤ 8) (h1 : ¬ flR q) : Met l yL_gate (tbwH yL_gate cL_gate 4 (some .int) hh_gate) rmL_gate_z (xPc D k a B0 w [.ref (a 0), .int q, .ref (a 21)]) (va_Qi (roP 2 w) (gB D k a) (gF B0)) 1 6 (gF B0) := by
  have hsX0 := hsX
  obtain ⟨hsF12, hsF13, hsF14⟩ := hsF
  refine y_ofW (by decide) rfl (fun p e s m args below meth c Q hQ htab hx hb hr hlk hml hown hts hB hG hK hS hXS ls hl => ?_)
  have hl : lv_has ls 4 [(0, .ref (a 0)), (1, .int q), (2, .ref (a 21))] := hl
  have hown : s.vm.findClass RL = some m.cls := hown
  refine lv_aload_n hx hb dL_gate_0 rfl (lv_at hl 2 rfl) ?_
  refine lv_iconst (v := 0) hx hb dL_gate_1 (by decide) ?_
  refine lv_aload_n hx hb dL_gate_2 rfl (lv_at hl 0 rfl) ?_
  refine lv_iload_n hx hb dL_gate_3 rfl (lv_at hl 1 rfl) ?_
  refine x_VX (i := 0) (As := [.int q]) (rest := [.int 0, .ref (a 21)]) (kX_gate_z hl9 hA hsX0 ⟨hsF12, hsF13, hsF14⟩ q h0 hn h1) calX_gate cvX_gate mlL_63 hx hb hml hown hts hB hG hK hS hXS (by decide) hsX0 rfl ⟨by decide, by decide⟩ rfl hl.1 rfl (Nat.le_of_ble_eq_true rfl) dL_gate_4 ⟨by decide, by decide⟩ (fun ce q9 H locs hG hS hce hcv hcl => ?_)
  refine vx_catch (E := eIAE) (name := eIAE) hown [⟨0, 9, 12, 13⟩] ⟨0, 9, 15, 15⟩ [⟨0, 9, 18, 31⟩] (htab.trans rfl) (List.forall_mem_cons.mpr ⟨Or.inr ⟨by decide, eISE, hts _ clL_13, hXS.2.2.2.2 (eIAE, eISE) (by decide +kernel)⟩, (fun _ h => nomatch h)⟩) (by decide) (by decide) (hts _ clL_15) (va_Nw.use rfl (hXS.2.2.2.1 (.castable eIAE eIAE) (by decide +kernel))) hce hcv hcl ?_
  refine lv_astore_n (lv' := [(3, .ref q9), (0, .ref (a 0)), (1, .int q), (2, .ref (a 21))]) hx hb dL_gate_15 rfl hl (by decide) rfl (fun ls hl => ?_)
  refine lv_iconst (v := 2) hx hb dL_gate_16 (by decide) ?_
  exact g_iret hQ hx hb hr hlk hG hK hS (by decide) (by decide) ⟨by first | rfl | omega | (simp_all; done) | grind, rfl⟩ dL_gate_17

abbrev rmL_gate_m : Room := { frames := 8, cells := 1, slots := 6, locals := 123 }
set_option maxRecDepth 100000 in
set_option maxHeartbeats 4000000 in
theorem kL_gate_m {l : Launch} (hl9 : l.stackTraces = false) {D : va_G} {k : ClassId × ClassId × ClassId} {a : Nat → Nat} {B0 : Nat} {w : Nat → va_E} (hA : gA B0 a) {nf : Nat} {fo : Nat → Int32} {ff : Nat → Int32} (hsX : sX k a w ) (hsF : sF k a w nf fo ff) (q : Int32) (h0 : 0 < nf) (hn : nf ≤ 8) (h1 : flR q) (hm : ¬ q ≤ flAt fo ff nf 10000) : Met l yL_gate (tbwH yL_gate cL_gate 4 (some .int) hh_gate) rmL_gate_m (xPc D k a B0 w [.ref (a 0), .int q, .ref (a 21)]) (va_Qi (roP 3 w) (gB D k a) (gF B0)) 1 6 (gF B0) := by
  have hsX0 := hsX
  obtain ⟨hsF12, hsF13, hsF14⟩ := hsF
  refine y_ofW (by decide) rfl (fun p e s m args below meth c Q hQ htab hx hb hr hlk hml hown hts hB hG hK hS hXS ls hl => ?_)
  have hl : lv_has ls 4 [(0, .ref (a 0)), (1, .int q), (2, .ref (a 21))] := hl
  have hown : s.vm.findClass RL = some m.cls := hown
  refine lv_aload_n hx hb dL_gate_0 rfl (lv_at hl 2 rfl) ?_
  refine lv_iconst (v := 0) hx hb dL_gate_1 (by decide) ?_
  refine lv_aload_n hx hb dL_gate_2 rfl (lv_at hl 0 rfl) ?_
  refine lv_iload_n hx hb dL_gate_3 rfl (lv_at hl 1 rfl) ?_
  refine x_VX (i := 0) (As := [.int q]) (rest := [.int 0, .ref (a 21)]) (kX_gate_m hl9 hA hsX0 ⟨hsF12, hsF13, hsF14⟩ q h0 hn h1 hm) calX_gate cvX_gate mlL_63 hx hb hml hown hts hB hG hK hS hXS (by decide) hsX0 rfl ⟨by decide, by decide⟩ rfl hl.1 rfl (Nat.le_of_ble_eq_true rfl) dL_gate_4 ⟨by decide, by decide⟩ (fun ce q9 H locs hG hS hce hcv hcl => ?_)
  refine vx_catch (E := eUOE) (name := eUOE) hown [⟨0, 9, 12, 13⟩, ⟨0, 9, 15, 15⟩] ⟨0, 9, 18, 31⟩ [] (htab.trans rfl) (List.forall_mem_cons.mpr ⟨Or.inr ⟨by decide, eISE, hts _ clL_13, hXS.2.2.2.2 (eUOE, eISE) (by decide +kernel)⟩, (List.forall_mem_cons.mpr ⟨Or.inr ⟨by decide, eIAE, hts _ clL_15, hXS.2.2.2.2 (eUOE, eIAE) (by decide +kernel)⟩, (fun _ h => nomatch h)⟩)⟩) (by decide) (by decide) (hts _ clL_31) (va_Nw.use rfl (hXS.2.2.2.1 (.castable eUOE eUOE) (by decide +kernel))) hce hcv hcl ?_
  refine lv_astore_n (lv' := [(3, .ref q9), (0, .ref (a 0)), (1, .int q), (2, .ref (a 21))]) hx hb dL_gate_18 rfl hl (by decide) rfl (fun ls hl => ?_)
  refine lv_iconst (v := 3) hx hb dL_gate_19 (by decide) ?_
  exact g_iret hQ hx hb hr hlk hG hK hS (by decide) (by decide) ⟨by first | rfl | omega | (simp_all; done) | grind, rfl⟩ dL_gate_20

abbrev rmL_pattern_k : Room := { frames := 2, cells := 0, slots := 0, locals := 42 }
set_option maxRecDepth 100000 in
set_option maxHeartbeats 4000000 in
theorem kL_pattern_k {l : Launch} {D : va_G} {k : ClassId × ClassId × ClassId} {a : Nat → Nat} {B0 : Nat} {w : Nat → va_E} (hA : gA B0 a) {oo : Nat → Int64} (hsX : sX k a w ) (hsO : sO k a w oo) (x : Int32) (y : Int32) (h1 : szR x) (h2 : rngI y 0 100) : Met l yL_pattern (tbwH yL_pattern cL_pattern 5 (some .int) hh_pattern) rmL_pattern_k (gPc D k a B0 w [.ref (a 0), .int x, .int y, .ref (a 21)]) (va_Qi (fun rr9 w1 => rr9 = 0 ∧ (sO k a w1 (vp_updL oo 0 (((x * (1000 + y) + 999) / 1000).toInt64))) ∧ ∀ z, z < 21 ∨ 21 < z → w1 z = w z) (gB D k a) (gF B0)) 0 0 (gF B0) := by
  have hsX0 := hsX
  have hsO21 := hsO
  refine h_ofW (by decide) rfl (fun p e s m args below meth c Q hQ hx hb hr hlk hml hown hts hB hG hK hS ls hl => ?_)
  have hl : lv_has ls 5 [(0, .ref (a 0)), (1, .int x), (2, .int y), (3, .ref (a 21))] := hl
  have hown : s.vm.findClass RL = some m.cls := hown
  have hfr0 : ∀ z, z < 21 ∨ 21 < z → w z = w z := fun _ _ => rfl
  refine lv_aload_n hx hb dL_pattern_0 rfl (lv_at hl 3 rfl) ?_
  refine lv_iconst (v := 0) hx hb dL_pattern_1 (by decide) ?_
  refine lv_aload_n hx hb dL_pattern_2 rfl (lv_at hl 0 rfl) ?_
  refine lv_iload_n hx hb dL_pattern_3 rfl (lv_at hl 1 rfl) ?_
  refine lv_iload_n hx hb dL_pattern_4 rfl (lv_at hl 2 rfl) ?_
  refine g_ViR (i := 0) (As := [.int x, .int y]) (rest := [.int 0, .ref (a 21)]) (kX_pattern hA x y h1 h2) calX_pattern cvX_pattern mlL_66 hx hb hml hown hts hB hG hK hS (by decide) hsX0 rfl ⟨by decide, by decide⟩ rfl hl.1 rfl (Nat.le_of_ble_eq_true rfl) dL_pattern_5 ⟨by decide, by decide⟩ (fun H locs hG hS => ?_)
  refine lv_i2l hx hb dL_pattern_8 rfl ?_
  refine g_last hx hb hK hA hG hS 21 (by decide) hsO21 (j := 0) (by omega) (by decide) dL_pattern_9 (fun H locs hG hS => ?_)
  obtain ⟨w1, hw2⟩ : ∃ zz9, zz9 = va_up w 21 (.inl (k.2.1, 1, .inr (.inl (vp_updL oo 0 (((x * (1000 + y) + 999) / 1000).toInt64))))) := ⟨_, rfl⟩
  replace hG : gW D a w1 H := by rw [hw2]; exact hG
  have h3 : w1 0 = .inr (0, [.ref (a 1), .ref (a 9), .ref (a 12), .ref (a 15)]) := by rw [hw2]; exact hsX0
  have h4 : w1 21 = .inl (k.2.1, 1, .inr (.inl (vp_updL oo 0 (((x * (1000 + y) + 999) / 1000).toInt64)))) := by rw [hw2]; rfl
  have hfr5 : ∀ z, z < 21 ∨ 21 < z → w1 z = w z := fun z hz => by rw [hw2]; exact (va_up_ne _ _ (by omega)).trans (hfr0 z hz)
  refine lv_goto (tgt := 17) hx hb dL_pattern_10 (by decide) ?_
  refine lv_iconst (v := 0) hx hb dL_pattern_17 (by decide) ?_
  exact g_iret hQ hx hb hr hlk hG hK hS (by decide) (by decide) ⟨by first | rfl | omega | (simp_all; done) | grind, h4, hfr5⟩ dL_pattern_18

abbrev rmL_pattern_z : Room := { frames := 8, cells := 1, slots := 6, locals := 124 }
set_option maxRecDepth 100000 in
set_option maxHeartbeats 4000000 in
theorem kL_pattern_z {l : Launch} (hl9 : l.stackTraces = false) {D : va_G} {k : ClassId × ClassId × ClassId} {a : Nat → Nat} {B0 : Nat} {w : Nat → va_E} (hA : gA B0 a) (hsX : sX k a w ) (x : Int32) (y : Int32) (hz : ¬ (szR x ∧ rngI y 0 100)) : Met l yL_pattern (tbwH yL_pattern cL_pattern 5 (some .int) hh_pattern) rmL_pattern_z (xPc D k a B0 w [.ref (a 0), .int x, .int y, .ref (a 21)]) (va_Qi (roP 1 w) (gB D k a) (gF B0)) 1 6 (gF B0) := by
  have hsX0 := hsX
  refine y_ofW (by decide) rfl (fun p e s m args below meth c Q hQ htab hx hb hr hlk hml hown hts hB hG hK hS hXS ls hl => ?_)
  have hl : lv_has ls 5 [(0, .ref (a 0)), (1, .int x), (2, .int y), (3, .ref (a 21))] := hl
  have hown : s.vm.findClass RL = some m.cls := hown
  refine lv_aload_n hx hb dL_pattern_0 rfl (lv_at hl 3 rfl) ?_
  refine lv_iconst (v := 0) hx hb dL_pattern_1 (by decide) ?_
  refine lv_aload_n hx hb dL_pattern_2 rfl (lv_at hl 0 rfl) ?_
  refine lv_iload_n hx hb dL_pattern_3 rfl (lv_at hl 1 rfl) ?_
  refine lv_iload_n hx hb dL_pattern_4 rfl (lv_at hl 2 rfl) ?_
  refine x_VX (i := 0) (As := [.int x, .int y]) (rest := [.int 0, .ref (a 21)]) (kX_pattern_z hl9 hA x y hz) calX_pattern cvX_pattern mlL_66 hx hb hml hown hts hB hG hK hS hXS (by decide) hsX0 rfl ⟨by decide, by decide⟩ rfl hl.1 rfl (Nat.le_of_ble_eq_true rfl) dL_pattern_5 ⟨by decide, by decide⟩ (fun ce q9 H locs hG hS hce hcv hcl => ?_)
  refine vx_catch (E := eIAE) (name := eIAE) hown [] ⟨0, 10, 13, 15⟩ [] (htab.trans rfl) (fun _ h => nomatch h) (by decide) (by decide) (hts _ clL_15) (va_Nw.use rfl (hXS.2.2.2.1 (.castable eIAE eIAE) (by decide +kernel))) hce hcv hcl ?_
  refine lv_astore (lv' := [(4, .ref q9), (0, .ref (a 0)), (1, .int x), (2, .int y), (3, .ref (a 21))]) hx hb dL_pattern_13 hl (by decide) rfl (fun ls hl => ?_)
  refine lv_iconst (v := 1) hx hb dL_pattern_15 (by decide) ?_
  exact g_iret hQ hx hb hr hlk hG hK hS (by decide) (by decide) ⟨by first | rfl | omega | (simp_all; done) | grind, rfl⟩ dL_pattern_16

abbrev rmL_molding_k : Room := { frames := 2, cells := 0, slots := 0, locals := 44 }
set_option maxRecDepth 100000 in
set_option maxHeartbeats 4000000 in
theorem kL_molding_k {l : Launch} {D : va_G} {k : ClassId × ClassId × ClassId} {a : Nat → Nat} {B0 : Nat} {w : Nat → va_E} (hA : gA B0 a) {bw : Int32} {bd : Int32} {bu : Int32} {nt : Nat} {ns : Nat} {tw : Nat → Int32} {td : Nat → Int32} {sb : Nat → Int32} {sd : Nat → Int32} {su : Nat → Int32} (hsX : sX k a w ) (hsM : sM k a w bw bd bu nt ns tw td sb sd su) (x : Int32) (y : Int32) (h1 : wdR x) (h2 : wdR y) : Met l yL_molding (tbwH yL_molding cL_molding 4 (some .int) hh_molding) rmL_molding_k (gPc D k a B0 w [.ref (a 0), .int x, .int y]) (va_Qi (fun rr9 w1 => rr9 = 0 ∧ (sM k a w1 x y 0 0 0 tw td sb sd su) ∧ ∀ z, z < 15 ∨ 20 < z → w1 z = w z) (gB D k a) (gF B0)) 0 0 (gF B0) := by
  have hsX0 := hsX
  obtain ⟨hsM15, hsM16, hsM17, hsM18, hsM19, hsM20⟩ := hsM
  refine h_ofW (by decide) rfl (fun p e s m args below meth c Q hQ hx hb hr hlk hml hown hts hB hG hK hS ls hl => ?_)
  have hl : lv_has ls 4 [(0, .ref (a 0)), (1, .int x), (2, .int y)] := hl
  have hown : s.vm.findClass RL = some m.cls := hown
  have hfr0 : ∀ z, z < 15 ∨ 20 < z → w z = w z := fun _ _ => rfl
  refine lv_aload_n hx hb dL_molding_0 rfl (lv_at hl 0 rfl) ?_
  refine lv_iload_n hx hb dL_molding_1 rfl (lv_at hl 1 rfl) ?_
  refine lv_iload_n hx hb dL_molding_2 rfl (lv_at hl 2 rfl) ?_
  refine g_Vv (i := 0) (As := [.int x, .int y]) (rest := []) (kX_molding hA hsX0 ⟨hsM15, hsM16, hsM17, hsM18, hsM19, hsM20⟩ x y h1 h2) calX_molding cvX_molding mlL_69 hx hb hml hown hts hB hG hK hS (by decide) hsX0 rfl ⟨by decide, by decide⟩ rfl hl.1 rfl (Nat.le_of_ble_eq_true rfl) dL_molding_3 ⟨by decide, by decide⟩ (fun w2 H locs hp3 hG hS => ?_)
  obtain ⟨⟨h4, h5, h6, h7, h8, h9⟩, hfr11⟩ := hp3
  have h12 : w2 0 = .inr (0, [.ref (a 1), .ref (a 9), .ref (a 12), .ref (a 15)]) := (hfr11 0 (by omega)).trans hsX0
  have hfr13 : ∀ z, z < 15 ∨ 20 < z → w2 z = w z := fun z hz => (hfr11 z (by omega)).trans (hfr0 z hz)
  refine lv_goto (tgt := 12) hx hb dL_molding_6 (by decide) ?_
  refine lv_iconst (v := 0) hx hb dL_molding_12 (by decide) ?_
  exact g_iret hQ hx hb hr hlk hG hK hS (by decide) (by decide) ⟨by first | rfl | omega | (simp_all; done) | grind, ⟨h4, h5, h6, h7, h8, h9⟩, hfr13⟩ dL_molding_13

abbrev rmL_molding_z : Room := { frames := 8, cells := 1, slots := 6, locals := 124 }
set_option maxRecDepth 100000 in
set_option maxHeartbeats 4000000 in
theorem kL_molding_z {l : Launch} (hl9 : l.stackTraces = false) {D : va_G} {k : ClassId × ClassId × ClassId} {a : Nat → Nat} {B0 : Nat} {w : Nat → va_E} (hA : gA B0 a) {bw : Int32} {bd : Int32} {bu : Int32} {nt : Nat} {ns : Nat} {tw : Nat → Int32} {td : Nat → Int32} {sb : Nat → Int32} {sd : Nat → Int32} {su : Nat → Int32} (hsX : sX k a w ) (hsM : sM k a w bw bd bu nt ns tw td sb sd su) (x : Int32) (y : Int32) (hz : ¬ (wdR x ∧ wdR y)) : Met l yL_molding (tbwH yL_molding cL_molding 4 (some .int) hh_molding) rmL_molding_z (xPc D k a B0 w [.ref (a 0), .int x, .int y]) (va_Qi (roP 1 w) (gB D k a) (gF B0)) 1 6 (gF B0) := by
  have hsX0 := hsX
  obtain ⟨hsM15, hsM16, hsM17, hsM18, hsM19, hsM20⟩ := hsM
  refine y_ofW (by decide) rfl (fun p e s m args below meth c Q hQ htab hx hb hr hlk hml hown hts hB hG hK hS hXS ls hl => ?_)
  have hl : lv_has ls 4 [(0, .ref (a 0)), (1, .int x), (2, .int y)] := hl
  have hown : s.vm.findClass RL = some m.cls := hown
  refine lv_aload_n hx hb dL_molding_0 rfl (lv_at hl 0 rfl) ?_
  refine lv_iload_n hx hb dL_molding_1 rfl (lv_at hl 1 rfl) ?_
  refine lv_iload_n hx hb dL_molding_2 rfl (lv_at hl 2 rfl) ?_
  refine x_VX (i := 0) (As := [.int x, .int y]) (rest := []) (kX_molding_z hl9 hA hsX0 ⟨hsM15, hsM16, hsM17, hsM18, hsM19, hsM20⟩ x y hz) calX_molding cvX_molding mlL_69 hx hb hml hown hts hB hG hK hS hXS (by decide) hsX0 rfl ⟨by decide, by decide⟩ rfl hl.1 rfl (Nat.le_of_ble_eq_true rfl) dL_molding_3 ⟨by decide, by decide⟩ (fun ce q9 H locs hG hS hce hcv hcl => ?_)
  refine vx_catch (E := eIAE) (name := eIAE) hown [] ⟨0, 6, 9, 15⟩ [] (htab.trans rfl) (fun _ h => nomatch h) (by decide) (by decide) (hts _ clL_15) (va_Nw.use rfl (hXS.2.2.2.1 (.castable eIAE eIAE) (by decide +kernel))) hce hcv hcl ?_
  refine lv_astore_n (lv' := [(3, .ref q9), (0, .ref (a 0)), (1, .int x), (2, .int y)]) hx hb dL_molding_9 rfl hl (by decide) rfl (fun ls hl => ?_)
  refine lv_iconst (v := 1) hx hb dL_molding_10 (by decide) ?_
  exact g_iret hQ hx hb hr hlk hG hK hS (by decide) (by decide) ⟨by first | rfl | omega | (simp_all; done) | grind, rfl⟩ dL_molding_11

abbrev rmL_pack_o : Room := { frames := 3, cells := 0, slots := 0, locals := 68 }
set_option maxRecDepth 100000 in
set_option maxHeartbeats 4000000 in
theorem kL_pack_o {l : Launch} {D : va_G} {k : ClassId × ClassId × ClassId} {a : Nat → Nat} {B0 : Nat} {w : Nat → va_E} (hA : gA B0 a) {bw : Int32} {bd : Int32} {bu : Int32} {nt : Nat} {ns : Nat} {tw : Nat → Int32} {td : Nat → Int32} {sb : Nat → Int32} {sd : Nat → Int32} {su : Nat → Int32} {oo : Nat → Int64} (hsX : sX k a w ) (hsM : sM k a w bw bd bu nt ns tw td sb sd su) (hsO : sO k a w oo) (x : Int32) (y : Int32) (i : Nat) (hi : i < ns) (hns : ns ≤ nt) (hnt : nt < 40) (h1 : wdR x) (h2 : wdR y) (hsh : shF bw bd bu ns sd su x y ns 0 = nI i) : Met l yL_pack (tbwH yL_pack cL_pack 5 (some .int) hh_pack) rmL_pack_o (gPc D k a B0 w [.ref (a 0), .int x, .int y, .ref (a 21)]) (va_Qi (fun rr9 w1 => rr9 = 0 ∧ (sM k a w1 bw bd bu (nt + 1) ns (upd tw nt (su i)) (upd td nt (sb i)) sb sd (upd su i (su i + x))) ∧ (sO k a w1 (vp_updL oo 0 ((nI nt).toInt64))) ∧ ∀ z, (z < 15 ∨ 20 < z) ∧ z ≠ 21 → w1 z = w z) (gB D k a) (gF B0)) 0 0 (gF B0) := by
  have hsX0 := hsX
  obtain ⟨hsM15, hsM16, hsM17, hsM18, hsM19, hsM20⟩ := hsM
  have hsO21 := hsO
  refine h_ofW (by decide) rfl (fun p e s m args below meth c Q hQ hx hb hr hlk hml hown hts hB hG hK hS ls hl => ?_)
  have hl : lv_has ls 5 [(0, .ref (a 0)), (1, .int x), (2, .int y), (3, .ref (a 21))] := hl
  have hown : s.vm.findClass RL = some m.cls := hown
  have hfr0 : ∀ z, (z < 15 ∨ 20 < z) ∧ z ≠ 21 → w z = w z := fun _ _ => rfl
  refine lv_aload_n hx hb dL_pack_0 rfl (lv_at hl 3 rfl) ?_
  refine lv_iconst (v := 0) hx hb dL_pack_1 (by decide) ?_
  refine lv_aload_n hx hb dL_pack_2 rfl (lv_at hl 0 rfl) ?_
  refine lv_iload_n hx hb dL_pack_3 rfl (lv_at hl 1 rfl) ?_
  refine lv_iload_n hx hb dL_pack_4 rfl (lv_at hl 2 rfl) ?_
  refine g_Vi (i := 0) (As := [.int x, .int y]) (rest := [.int 0, .ref (a 21)]) (kX_pack_o hA hsX0 ⟨hsM15, hsM16, hsM17, hsM18, hsM19, hsM20⟩ x y i hi hns hnt h1 h2 hsh) calX_pack cvX_pack mlL_73 hx hb hml hown hts hB hG hK hS (by decide) hsX0 rfl ⟨by decide, by decide⟩ rfl hl.1 rfl (Nat.le_of_ble_eq_true rfl) dL_pack_5 ⟨by decide, by decide⟩ (fun r1 w2 H locs hp3 hG hS => ?_)
  obtain ⟨er10, ⟨h4, h5, h6, h7, h8, h9⟩, hfr11⟩ := hp3
  have h12 : w2 0 = .inr (0, [.ref (a 1), .ref (a 9), .ref (a 12), .ref (a 15)]) := (hfr11 0 (by omega)).trans hsX0
  have h13 : w2 21 = .inl (k.2.1, 1, .inr (.inl oo)) := (hfr11 21 (by omega)).trans hsO21
  have hfr14 : ∀ z, (z < 15 ∨ 20 < z) ∧ z ≠ 21 → w2 z = w z := fun z hz => (hfr11 z (by omega)).trans (hfr0 z hz)
  rw [er10]
  refine lv_i2l hx hb dL_pack_8 rfl ?_
  refine g_last hx hb hK hA hG hS 21 (by decide) h13 (j := 0) (by omega) (by decide) dL_pack_9 (fun H locs hG hS => ?_)
  obtain ⟨w15, hw16⟩ : ∃ zz9, zz9 = va_up w2 21 (.inl (k.2.1, 1, .inr (.inl (vp_updL oo 0 ((nI nt).toInt64))))) := ⟨_, rfl⟩
  replace hG : gW D a w15 H := by rw [hw16]; exact hG
  have h17 : w15 0 = .inr (0, [.ref (a 1), .ref (a 9), .ref (a 12), .ref (a 15)]) := by rw [hw16]; exact h12
  have h18 : w15 15 = .inr (4, [.ref (a 16), .ref (a 17), .ref (a 18), .ref (a 19), .ref (a 20), .int bw, .int bd, .int bu, .int (nI (nt + 1)), .int (nI ns)]) := by rw [hw16]; exact h4
  have h19 : w15 16 = .inl (k.1, 40, .inl (upd tw nt (su i))) := by rw [hw16]; exact h5
  have h20 : w15 17 = .inl (k.1, 40, .inl (upd td nt (sb i))) := by rw [hw16]; exact h6
  have h21 : w15 18 = .inl (k.1, 40, .inl sb) := by rw [hw16]; exact h7
  have h22 : w15 19 = .inl (k.1, 40, .inl sd) := by rw [hw16]; exact h8
  have h23 : w15 20 = .inl (k.1, 40, .inl (upd su i (su i + x))) := by rw [hw16]; exact h9
  have h24 : w15 21 = .inl (k.2.1, 1, .inr (.inl (vp_updL oo 0 ((nI nt).toInt64)))) := by rw [hw16]; rfl
  have hfr25 : ∀ z, (z < 15 ∨ 20 < z) ∧ z ≠ 21 → w15 z = w z := fun z hz => by rw [hw16]; exact (va_up_ne _ _ (by omega)).trans (hfr14 z hz)
  refine lv_goto (tgt := 25) hx hb dL_pack_10 (by decide) ?_
  refine lv_iconst (v := 0) hx hb dL_pack_25 (by decide) ?_
  exact g_iret hQ hx hb hr hlk hG hK hS (by decide) (by decide) ⟨by first | rfl | omega | (simp_all; done) | grind, ⟨h18, h19, h20, h21, h22, h23⟩, h24, hfr25⟩ dL_pack_26

abbrev rmL_pack_n : Room := { frames := 3, cells := 0, slots := 0, locals := 68 }
set_option maxRecDepth 100000 in
set_option maxHeartbeats 4000000 in
theorem kL_pack_n {l : Launch} {D : va_G} {k : ClassId × ClassId × ClassId} {a : Nat → Nat} {B0 : Nat} {w : Nat → va_E} (hA : gA B0 a) {bw : Int32} {bd : Int32} {bu : Int32} {nt : Nat} {ns : Nat} {tw : Nat → Int32} {td : Nat → Int32} {sb : Nat → Int32} {sd : Nat → Int32} {su : Nat → Int32} {oo : Nat → Int64} (hsX : sX k a w ) (hsM : sM k a w bw bd bu nt ns tw td sb sd su) (hsO : sO k a w oo) (x : Int32) (y : Int32) (hns : ns ≤ nt) (hnt : nt < 40) (h1 : wdR x) (h2 : wdR y) (hsh : shF bw bd bu ns sd su x y ns 0 = nI ns) : Met l yL_pack (tbwH yL_pack cL_pack 5 (some .int) hh_pack) rmL_pack_n (gPc D k a B0 w [.ref (a 0), .int x, .int y, .ref (a 21)]) (va_Qi (fun rr9 w1 => rr9 = 0 ∧ (sM k a w1 bw bd (bu + y) (nt + 1) (ns + 1) (upd tw nt (upd su ns 0 ns)) (upd td nt (upd sb ns bu ns)) (upd sb ns bu) (upd sd ns y) (upd (upd su ns 0) ns (upd su ns 0 ns + x))) ∧ (sO k a w1 (vp_updL oo 0 ((nI nt).toInt64))) ∧ ∀ z, (z < 15 ∨ 20 < z) ∧ z ≠ 21 → w1 z = w z) (gB D k a) (gF B0)) 0 0 (gF B0) := by
  have hsX0 := hsX
  obtain ⟨hsM15, hsM16, hsM17, hsM18, hsM19, hsM20⟩ := hsM
  have hsO21 := hsO
  refine h_ofW (by decide) rfl (fun p e s m args below meth c Q hQ hx hb hr hlk hml hown hts hB hG hK hS ls hl => ?_)
  have hl : lv_has ls 5 [(0, .ref (a 0)), (1, .int x), (2, .int y), (3, .ref (a 21))] := hl
  have hown : s.vm.findClass RL = some m.cls := hown
  have hfr0 : ∀ z, (z < 15 ∨ 20 < z) ∧ z ≠ 21 → w z = w z := fun _ _ => rfl
  refine lv_aload_n hx hb dL_pack_0 rfl (lv_at hl 3 rfl) ?_
  refine lv_iconst (v := 0) hx hb dL_pack_1 (by decide) ?_
  refine lv_aload_n hx hb dL_pack_2 rfl (lv_at hl 0 rfl) ?_
  refine lv_iload_n hx hb dL_pack_3 rfl (lv_at hl 1 rfl) ?_
  refine lv_iload_n hx hb dL_pack_4 rfl (lv_at hl 2 rfl) ?_
  refine g_Vi (i := 0) (As := [.int x, .int y]) (rest := [.int 0, .ref (a 21)]) (kX_pack_n hA hsX0 ⟨hsM15, hsM16, hsM17, hsM18, hsM19, hsM20⟩ x y hns hnt h1 h2 hsh) calX_pack cvX_pack mlL_73 hx hb hml hown hts hB hG hK hS (by decide) hsX0 rfl ⟨by decide, by decide⟩ rfl hl.1 rfl (Nat.le_of_ble_eq_true rfl) dL_pack_5 ⟨by decide, by decide⟩ (fun r1 w2 H locs hp3 hG hS => ?_)
  obtain ⟨er10, ⟨h4, h5, h6, h7, h8, h9⟩, hfr11⟩ := hp3
  have h12 : w2 0 = .inr (0, [.ref (a 1), .ref (a 9), .ref (a 12), .ref (a 15)]) := (hfr11 0 (by omega)).trans hsX0
  have h13 : w2 21 = .inl (k.2.1, 1, .inr (.inl oo)) := (hfr11 21 (by omega)).trans hsO21
  have hfr14 : ∀ z, (z < 15 ∨ 20 < z) ∧ z ≠ 21 → w2 z = w z := fun z hz => (hfr11 z (by omega)).trans (hfr0 z hz)
  rw [er10]
  refine lv_i2l hx hb dL_pack_8 rfl ?_
  refine g_last hx hb hK hA hG hS 21 (by decide) h13 (j := 0) (by omega) (by decide) dL_pack_9 (fun H locs hG hS => ?_)
  obtain ⟨w15, hw16⟩ : ∃ zz9, zz9 = va_up w2 21 (.inl (k.2.1, 1, .inr (.inl (vp_updL oo 0 ((nI nt).toInt64))))) := ⟨_, rfl⟩
  replace hG : gW D a w15 H := by rw [hw16]; exact hG
  have h17 : w15 0 = .inr (0, [.ref (a 1), .ref (a 9), .ref (a 12), .ref (a 15)]) := by rw [hw16]; exact h12
  have h18 : w15 15 = .inr (4, [.ref (a 16), .ref (a 17), .ref (a 18), .ref (a 19), .ref (a 20), .int bw, .int bd, .int (bu + y), .int (nI (nt + 1)), .int (nI (ns + 1))]) := by rw [hw16]; exact h4
  have h19 : w15 16 = .inl (k.1, 40, .inl (upd tw nt (upd su ns 0 ns))) := by rw [hw16]; exact h5
  have h20 : w15 17 = .inl (k.1, 40, .inl (upd td nt (upd sb ns bu ns))) := by rw [hw16]; exact h6
  have h21 : w15 18 = .inl (k.1, 40, .inl (upd sb ns bu)) := by rw [hw16]; exact h7
  have h22 : w15 19 = .inl (k.1, 40, .inl (upd sd ns y)) := by rw [hw16]; exact h8
  have h23 : w15 20 = .inl (k.1, 40, .inl (upd (upd su ns 0) ns (upd su ns 0 ns + x))) := by rw [hw16]; exact h9
  have h24 : w15 21 = .inl (k.2.1, 1, .inr (.inl (vp_updL oo 0 ((nI nt).toInt64)))) := by rw [hw16]; rfl
  have hfr25 : ∀ z, (z < 15 ∨ 20 < z) ∧ z ≠ 21 → w15 z = w z := fun z hz => by rw [hw16]; exact (va_up_ne _ _ (by omega)).trans (hfr14 z hz)
  refine lv_goto (tgt := 25) hx hb dL_pack_10 (by decide) ?_
  refine lv_iconst (v := 0) hx hb dL_pack_25 (by decide) ?_
  exact g_iret hQ hx hb hr hlk hG hK hS (by decide) (by decide) ⟨by first | rfl | omega | (simp_all; done) | grind, ⟨h18, h19, h20, h21, h22, h23⟩, h24, hfr25⟩ dL_pack_26

abbrev rmL_pack_f : Room := { frames := 8, cells := 1, slots := 6, locals := 125 }
set_option maxRecDepth 100000 in
set_option maxHeartbeats 4000000 in
theorem kL_pack_f {l : Launch} (hl9 : l.stackTraces = false) {D : va_G} {k : ClassId × ClassId × ClassId} {a : Nat → Nat} {B0 : Nat} {w : Nat → va_E} (hA : gA B0 a) {bw : Int32} {bd : Int32} {bu : Int32} {nt : Nat} {ns : Nat} {tw : Nat → Int32} {td : Nat → Int32} {sb : Nat → Int32} {sd : Nat → Int32} {su : Nat → Int32} (hsX : sX k a w ) (hsM : sM k a w bw bd bu nt ns tw td sb sd su) (x : Int32) (y : Int32) (hnt : nt = 40) : Met l yL_pack (tbwH yL_pack cL_pack 5 (some .int) hh_pack) rmL_pack_f (xPc D k a B0 w [.ref (a 0), .int x, .int y, .ref (a 21)]) (va_Qi (roP 1 w) (gB D k a) (gF B0)) 1 6 (gF B0) := by
  have hsX0 := hsX
  obtain ⟨hsM15, hsM16, hsM17, hsM18, hsM19, hsM20⟩ := hsM
  refine y_ofW (by decide) rfl (fun p e s m args below meth c Q hQ htab hx hb hr hlk hml hown hts hB hG hK hS hXS ls hl => ?_)
  have hl : lv_has ls 5 [(0, .ref (a 0)), (1, .int x), (2, .int y), (3, .ref (a 21))] := hl
  have hown : s.vm.findClass RL = some m.cls := hown
  refine lv_aload_n hx hb dL_pack_0 rfl (lv_at hl 3 rfl) ?_
  refine lv_iconst (v := 0) hx hb dL_pack_1 (by decide) ?_
  refine lv_aload_n hx hb dL_pack_2 rfl (lv_at hl 0 rfl) ?_
  refine lv_iload_n hx hb dL_pack_3 rfl (lv_at hl 1 rfl) ?_
  refine lv_iload_n hx hb dL_pack_4 rfl (lv_at hl 2 rfl) ?_
  refine x_VX (i := 0) (As := [.int x, .int y]) (rest := [.int 0, .ref (a 21)]) (kX_pack_f hl9 hA hsX0 ⟨hsM15, hsM16, hsM17, hsM18, hsM19, hsM20⟩ x y hnt) calX_pack cvX_pack mlL_73 hx hb hml hown hts hB hG hK hS hXS (by decide) hsX0 rfl ⟨by decide, by decide⟩ rfl hl.1 rfl (Nat.le_of_ble_eq_true rfl) dL_pack_5 ⟨by decide, by decide⟩ (fun ce q9 H locs hG hS hce hcv hcl => ?_)
  refine vx_catch (E := eISE) (name := eISE) hown [] ⟨0, 10, 13, 13⟩ [⟨0, 10, 17, 15⟩, ⟨0, 10, 21, 31⟩] (htab.trans rfl) (fun _ h => nomatch h) (by decide) (by decide) (hts _ clL_13) (va_Nw.use rfl (hXS.2.2.2.1 (.castable eISE eISE) (by decide +kernel))) hce hcv hcl ?_
  refine lv_astore (lv' := [(4, .ref q9), (0, .ref (a 0)), (1, .int x), (2, .int y), (3, .ref (a 21))]) hx hb dL_pack_13 hl (by decide) rfl (fun ls hl => ?_)
  refine lv_iconst (v := 1) hx hb dL_pack_15 (by decide) ?_
  exact g_iret hQ hx hb hr hlk hG hK hS (by decide) (by decide) ⟨by first | rfl | omega | (simp_all; done) | grind, rfl⟩ dL_pack_16

abbrev rmL_pack_z : Room := { frames := 8, cells := 1, slots := 6, locals := 125 }
set_option maxRecDepth 100000 in
set_option maxHeartbeats 4000000 in
theorem kL_pack_z {l : Launch} (hl9 : l.stackTraces = false) {D : va_G} {k : ClassId × ClassId × ClassId} {a : Nat → Nat} {B0 : Nat} {w : Nat → va_E} (hA : gA B0 a) {bw : Int32} {bd : Int32} {bu : Int32} {nt : Nat} {ns : Nat} {tw : Nat → Int32} {td : Nat → Int32} {sb : Nat → Int32} {sd : Nat → Int32} {su : Nat → Int32} (hsX : sX k a w ) (hsM : sM k a w bw bd bu nt ns tw td sb sd su) (x : Int32) (y : Int32) (hnt : nt < 40) (hz : ¬ (wdR x ∧ wdR y)) : Met l yL_pack (tbwH yL_pack cL_pack 5 (some .int) hh_pack) rmL_pack_z (xPc D k a B0 w [.ref (a 0), .int x, .int y, .ref (a 21)]) (va_Qi (roP 2 w) (gB D k a) (gF B0)) 1 6 (gF B0) := by
  have hsX0 := hsX
  obtain ⟨hsM15, hsM16, hsM17, hsM18, hsM19, hsM20⟩ := hsM
  refine y_ofW (by decide) rfl (fun p e s m args below meth c Q hQ htab hx hb hr hlk hml hown hts hB hG hK hS hXS ls hl => ?_)
  have hl : lv_has ls 5 [(0, .ref (a 0)), (1, .int x), (2, .int y), (3, .ref (a 21))] := hl
  have hown : s.vm.findClass RL = some m.cls := hown
  refine lv_aload_n hx hb dL_pack_0 rfl (lv_at hl 3 rfl) ?_
  refine lv_iconst (v := 0) hx hb dL_pack_1 (by decide) ?_
  refine lv_aload_n hx hb dL_pack_2 rfl (lv_at hl 0 rfl) ?_
  refine lv_iload_n hx hb dL_pack_3 rfl (lv_at hl 1 rfl) ?_
  refine lv_iload_n hx hb dL_pack_4 rfl (lv_at hl 2 rfl) ?_
  refine x_VX (i := 0) (As := [.int x, .int y]) (rest := [.int 0, .ref (a 21)]) (kX_pack_z hl9 hA hsX0 ⟨hsM15, hsM16, hsM17, hsM18, hsM19, hsM20⟩ x y hnt hz) calX_pack cvX_pack mlL_73 hx hb hml hown hts hB hG hK hS hXS (by decide) hsX0 rfl ⟨by decide, by decide⟩ rfl hl.1 rfl (Nat.le_of_ble_eq_true rfl) dL_pack_5 ⟨by decide, by decide⟩ (fun ce q9 H locs hG hS hce hcv hcl => ?_)
  refine vx_catch (E := eIAE) (name := eIAE) hown [⟨0, 10, 13, 13⟩] ⟨0, 10, 17, 15⟩ [⟨0, 10, 21, 31⟩] (htab.trans rfl) (List.forall_mem_cons.mpr ⟨Or.inr ⟨by decide, eISE, hts _ clL_13, hXS.2.2.2.2 (eIAE, eISE) (by decide +kernel)⟩, (fun _ h => nomatch h)⟩) (by decide) (by decide) (hts _ clL_15) (va_Nw.use rfl (hXS.2.2.2.1 (.castable eIAE eIAE) (by decide +kernel))) hce hcv hcl ?_
  refine lv_astore (lv' := [(4, .ref q9), (0, .ref (a 0)), (1, .int x), (2, .int y), (3, .ref (a 21))]) hx hb dL_pack_17 hl (by decide) rfl (fun ls hl => ?_)
  refine lv_iconst (v := 2) hx hb dL_pack_19 (by decide) ?_
  exact g_iret hQ hx hb hr hlk hG hK hS (by decide) (by decide) ⟨by first | rfl | omega | (simp_all; done) | grind, rfl⟩ dL_pack_20

abbrev rmL_pack_m : Room := { frames := 8, cells := 1, slots := 6, locals := 125 }
set_option maxRecDepth 100000 in
set_option maxHeartbeats 4000000 in
theorem kL_pack_m {l : Launch} (hl9 : l.stackTraces = false) {D : va_G} {k : ClassId × ClassId × ClassId} {a : Nat → Nat} {B0 : Nat} {w : Nat → va_E} (hA : gA B0 a) {bw : Int32} {bd : Int32} {bu : Int32} {nt : Nat} {ns : Nat} {tw : Nat → Int32} {td : Nat → Int32} {sb : Nat → Int32} {sd : Nat → Int32} {su : Nat → Int32} (hsX : sX k a w ) (hsM : sM k a w bw bd bu nt ns tw td sb sd su) (x : Int32) (y : Int32) (hns : ns ≤ nt) (hnt : nt < 40) (h1 : wdR x) (h2 : wdR y) (hsh : shF bw bd bu ns sd su x y ns 0 = -1) : Met l yL_pack (tbwH yL_pack cL_pack 5 (some .int) hh_pack) rmL_pack_m (xPc D k a B0 w [.ref (a 0), .int x, .int y, .ref (a 21)]) (va_Qi (roP 3 w) (gB D k a) (gF B0)) 1 6 (gF B0) := by
  have hsX0 := hsX
  obtain ⟨hsM15, hsM16, hsM17, hsM18, hsM19, hsM20⟩ := hsM
  refine y_ofW (by decide) rfl (fun p e s m args below meth c Q hQ htab hx hb hr hlk hml hown hts hB hG hK hS hXS ls hl => ?_)
  have hl : lv_has ls 5 [(0, .ref (a 0)), (1, .int x), (2, .int y), (3, .ref (a 21))] := hl
  have hown : s.vm.findClass RL = some m.cls := hown
  refine lv_aload_n hx hb dL_pack_0 rfl (lv_at hl 3 rfl) ?_
  refine lv_iconst (v := 0) hx hb dL_pack_1 (by decide) ?_
  refine lv_aload_n hx hb dL_pack_2 rfl (lv_at hl 0 rfl) ?_
  refine lv_iload_n hx hb dL_pack_3 rfl (lv_at hl 1 rfl) ?_
  refine lv_iload_n hx hb dL_pack_4 rfl (lv_at hl 2 rfl) ?_
  refine x_VX (i := 0) (As := [.int x, .int y]) (rest := [.int 0, .ref (a 21)]) (kX_pack_m hl9 hA hsX0 ⟨hsM15, hsM16, hsM17, hsM18, hsM19, hsM20⟩ x y hns hnt h1 h2 hsh) calX_pack cvX_pack mlL_73 hx hb hml hown hts hB hG hK hS hXS (by decide) hsX0 rfl ⟨by decide, by decide⟩ rfl hl.1 rfl (Nat.le_of_ble_eq_true rfl) dL_pack_5 ⟨by decide, by decide⟩ (fun ce q9 H locs hG hS hce hcv hcl => ?_)
  refine vx_catch (E := eUOE) (name := eUOE) hown [⟨0, 10, 13, 13⟩, ⟨0, 10, 17, 15⟩] ⟨0, 10, 21, 31⟩ [] (htab.trans rfl) (List.forall_mem_cons.mpr ⟨Or.inr ⟨by decide, eISE, hts _ clL_13, hXS.2.2.2.2 (eUOE, eISE) (by decide +kernel)⟩, (List.forall_mem_cons.mpr ⟨Or.inr ⟨by decide, eIAE, hts _ clL_15, hXS.2.2.2.2 (eUOE, eIAE) (by decide +kernel)⟩, (fun _ h => nomatch h)⟩)⟩) (by decide) (by decide) (hts _ clL_31) (va_Nw.use rfl (hXS.2.2.2.1 (.castable eUOE eUOE) (by decide +kernel))) hce hcv hcl ?_
  refine lv_astore (lv' := [(4, .ref q9), (0, .ref (a 0)), (1, .int x), (2, .int y), (3, .ref (a 21))]) hx hb dL_pack_21 hl (by decide) rfl (fun ls hl => ?_)
  refine lv_iconst (v := 3) hx hb dL_pack_23 (by decide) ?_
  exact g_iret hQ hx hb hr hlk hG hK hS (by decide) (by decide) ⟨by first | rfl | omega | (simp_all; done) | grind, rfl⟩ dL_pack_24

abbrev rmL_packed_k : Room := { frames := 2, cells := 0, slots := 0, locals := 43 }
set_option maxRecDepth 100000 in
set_option maxHeartbeats 4000000 in
theorem kL_packed_k {l : Launch} {D : va_G} {k : ClassId × ClassId × ClassId} {a : Nat → Nat} {B0 : Nat} {w : Nat → va_E} (hA : gA B0 a) {bw : Int32} {bd : Int32} {bu : Int32} {nt : Nat} {ns : Nat} {tw : Nat → Int32} {td : Nat → Int32} {sb : Nat → Int32} {sd : Nat → Int32} {su : Nat → Int32} {oo : Nat → Int64} (hsX : sX k a w ) (hsM : sM k a w bw bd bu nt ns tw td sb sd su) (hsO : sO k a w oo) (j : Nat) (q : Int32) (hj : j < nt) (hn : nt ≤ 40) (hw : rngI q 0 1) : Met l yL_packed (tbwH yL_packed cL_packed 5 (some .int) hh_packed) rmL_packed_k (gPc D k a B0 w [.ref (a 0), .int (nI j), .int q, .ref (a 21)]) (va_Qi (fun rr9 w1 => rr9 = 0 ∧ (sO k a w1 (vp_updL oo 0 ((rPk tw td j q).toInt64))) ∧ ∀ z, z < 21 ∨ 21 < z → w1 z = w z) (gB D k a) (gF B0)) 0 0 (gF B0) := by
  have hsX0 := hsX
  obtain ⟨hsM15, hsM16, hsM17, hsM18, hsM19, hsM20⟩ := hsM
  have hsO21 := hsO
  refine h_ofW (by decide) rfl (fun p e s m args below meth c Q hQ hx hb hr hlk hml hown hts hB hG hK hS ls hl => ?_)
  have hl : lv_has ls 5 [(0, .ref (a 0)), (1, .int (nI j)), (2, .int q), (3, .ref (a 21))] := hl
  have hown : s.vm.findClass RL = some m.cls := hown
  have hfr0 : ∀ z, z < 21 ∨ 21 < z → w z = w z := fun _ _ => rfl
  refine lv_aload_n hx hb dL_packed_0 rfl (lv_at hl 3 rfl) ?_
  refine lv_iconst (v := 0) hx hb dL_packed_1 (by decide) ?_
  refine lv_aload_n hx hb dL_packed_2 rfl (lv_at hl 0 rfl) ?_
  refine lv_iload_n hx hb dL_packed_3 rfl (lv_at hl 1 rfl) ?_
  refine lv_iload_n hx hb dL_packed_4 rfl (lv_at hl 2 rfl) ?_
  refine g_ViR (i := 0) (As := [.int (nI j), .int q]) (rest := [.int 0, .ref (a 21)]) (kX_packed hA hsX0 ⟨hsM15, hsM16, hsM17, hsM18, hsM19, hsM20⟩ j q hj hn hw) calX_packed cvX_packed mlL_76 hx hb hml hown hts hB hG hK hS (by decide) hsX0 rfl ⟨by decide, by decide⟩ rfl hl.1 rfl (Nat.le_of_ble_eq_true rfl) dL_packed_5 ⟨by decide, by decide⟩ (fun H locs hG hS => ?_)
  refine lv_i2l hx hb dL_packed_8 rfl ?_
  refine g_last hx hb hK hA hG hS 21 (by decide) hsO21 (j := 0) (by omega) (by decide) dL_packed_9 (fun H locs hG hS => ?_)
  obtain ⟨w1, hw2⟩ : ∃ zz9, zz9 = va_up w 21 (.inl (k.2.1, 1, .inr (.inl (vp_updL oo 0 ((rPk tw td j q).toInt64))))) := ⟨_, rfl⟩
  replace hG : gW D a w1 H := by rw [hw2]; exact hG
  have h3 : w1 0 = .inr (0, [.ref (a 1), .ref (a 9), .ref (a 12), .ref (a 15)]) := by rw [hw2]; exact hsX0
  have h4 : w1 15 = .inr (4, [.ref (a 16), .ref (a 17), .ref (a 18), .ref (a 19), .ref (a 20), .int bw, .int bd, .int bu, .int (nI nt), .int (nI ns)]) := by rw [hw2]; exact hsM15
  have h5 : w1 16 = .inl (k.1, 40, .inl tw) := by rw [hw2]; exact hsM16
  have h6 : w1 17 = .inl (k.1, 40, .inl td) := by rw [hw2]; exact hsM17
  have h7 : w1 18 = .inl (k.1, 40, .inl sb) := by rw [hw2]; exact hsM18
  have h8 : w1 19 = .inl (k.1, 40, .inl sd) := by rw [hw2]; exact hsM19
  have h9 : w1 20 = .inl (k.1, 40, .inl su) := by rw [hw2]; exact hsM20
  have h10 : w1 21 = .inl (k.2.1, 1, .inr (.inl (vp_updL oo 0 ((rPk tw td j q).toInt64)))) := by rw [hw2]; rfl
  have hfr11 : ∀ z, z < 21 ∨ 21 < z → w1 z = w z := fun z hz => by rw [hw2]; exact (va_up_ne _ _ (by omega)).trans (hfr0 z hz)
  refine lv_goto (tgt := 17) hx hb dL_packed_10 (by decide) ?_
  refine lv_iconst (v := 0) hx hb dL_packed_17 (by decide) ?_
  exact g_iret hQ hx hb hr hlk hG hK hS (by decide) (by decide) ⟨by first | rfl | omega | (simp_all; done) | grind, h10, hfr11⟩ dL_packed_18

abbrev rmL_packed_p : Room := { frames := 7, cells := 1, slots := 6, locals := 104 }
set_option maxRecDepth 100000 in
set_option maxHeartbeats 4000000 in
theorem kL_packed_p {l : Launch} (hl9 : l.stackTraces = false) {D : va_G} {k : ClassId × ClassId × ClassId} {a : Nat → Nat} {B0 : Nat} {w : Nat → va_E} (hA : gA B0 a) {bw : Int32} {bd : Int32} {bu : Int32} {nt : Nat} {ns : Nat} {tw : Nat → Int32} {td : Nat → Int32} {sb : Nat → Int32} {sd : Nat → Int32} {su : Nat → Int32} (hsX : sX k a w ) (hsM : sM k a w bw bd bu nt ns tw td sb sd su) (q : Int32) (r : Int32) (hq : ¬ (¬ q < 0 ∧ ¬ nI nt ≤ q)) : Met l yL_packed (tbwH yL_packed cL_packed 5 (some .int) hh_packed) rmL_packed_p (xPc D k a B0 w [.ref (a 0), .int q, .int r, .ref (a 21)]) (va_Qi (roP 1 w) (gB D k a) (gF B0)) 1 6 (gF B0) := by
  have hsX0 := hsX
  obtain ⟨hsM15, hsM16, hsM17, hsM18, hsM19, hsM20⟩ := hsM
  refine y_ofW (by decide) rfl (fun p e s m args below meth c Q hQ htab hx hb hr hlk hml hown hts hB hG hK hS hXS ls hl => ?_)
  have hl : lv_has ls 5 [(0, .ref (a 0)), (1, .int q), (2, .int r), (3, .ref (a 21))] := hl
  have hown : s.vm.findClass RL = some m.cls := hown
  refine lv_aload_n hx hb dL_packed_0 rfl (lv_at hl 3 rfl) ?_
  refine lv_iconst (v := 0) hx hb dL_packed_1 (by decide) ?_
  refine lv_aload_n hx hb dL_packed_2 rfl (lv_at hl 0 rfl) ?_
  refine lv_iload_n hx hb dL_packed_3 rfl (lv_at hl 1 rfl) ?_
  refine lv_iload_n hx hb dL_packed_4 rfl (lv_at hl 2 rfl) ?_
  refine x_VX (i := 0) (As := [.int q, .int r]) (rest := [.int 0, .ref (a 21)]) (kX_packed_p hl9 hA hsX0 ⟨hsM15, hsM16, hsM17, hsM18, hsM19, hsM20⟩ q r hq) calX_packed cvX_packed mlL_76 hx hb hml hown hts hB hG hK hS hXS (by decide) hsX0 rfl ⟨by decide, by decide⟩ rfl hl.1 rfl (Nat.le_of_ble_eq_true rfl) dL_packed_5 ⟨by decide, by decide⟩ (fun ce q9 H locs hG hS hce hcv hcl => ?_)
  refine vx_catch (E := eIOB) (name := eIOB) hown [] ⟨0, 10, 13, 25⟩ [] (htab.trans rfl) (fun _ h => nomatch h) (by decide) (by decide) (hts _ clL_25) (va_Nw.use rfl (hXS.2.2.2.1 (.castable eIOB eIOB) (by decide +kernel))) hce hcv hcl ?_
  refine lv_astore (lv' := [(4, .ref q9), (0, .ref (a 0)), (1, .int q), (2, .int r), (3, .ref (a 21))]) hx hb dL_packed_13 hl (by decide) rfl (fun ls hl => ?_)
  refine lv_iconst (v := 1) hx hb dL_packed_15 (by decide) ?_
  exact g_iret hQ hx hb hr hlk hG hK hS (by decide) (by decide) ⟨by first | rfl | omega | (simp_all; done) | grind, rfl⟩ dL_packed_16

abbrev rmL_packed_w : Room := { frames := 7, cells := 1, slots := 6, locals := 104 }
set_option maxRecDepth 100000 in
set_option maxHeartbeats 4000000 in
theorem kL_packed_w {l : Launch} (hl9 : l.stackTraces = false) {D : va_G} {k : ClassId × ClassId × ClassId} {a : Nat → Nat} {B0 : Nat} {w : Nat → va_E} (hA : gA B0 a) {bw : Int32} {bd : Int32} {bu : Int32} {nt : Nat} {ns : Nat} {tw : Nat → Int32} {td : Nat → Int32} {sb : Nat → Int32} {sd : Nat → Int32} {su : Nat → Int32} (hsX : sX k a w ) (hsM : sM k a w bw bd bu nt ns tw td sb sd su) (j : Nat) (r : Int32) (hj : j < nt) (hn : nt ≤ 40) (hw : ¬ rngI r 0 1) : Met l yL_packed (tbwH yL_packed cL_packed 5 (some .int) hh_packed) rmL_packed_w (xPc D k a B0 w [.ref (a 0), .int (nI j), .int r, .ref (a 21)]) (va_Qi (roP 1 w) (gB D k a) (gF B0)) 1 6 (gF B0) := by
  have hsX0 := hsX
  obtain ⟨hsM15, hsM16, hsM17, hsM18, hsM19, hsM20⟩ := hsM
  refine y_ofW (by decide) rfl (fun p e s m args below meth c Q hQ htab hx hb hr hlk hml hown hts hB hG hK hS hXS ls hl => ?_)
  have hl : lv_has ls 5 [(0, .ref (a 0)), (1, .int (nI j)), (2, .int r), (3, .ref (a 21))] := hl
  have hown : s.vm.findClass RL = some m.cls := hown
  refine lv_aload_n hx hb dL_packed_0 rfl (lv_at hl 3 rfl) ?_
  refine lv_iconst (v := 0) hx hb dL_packed_1 (by decide) ?_
  refine lv_aload_n hx hb dL_packed_2 rfl (lv_at hl 0 rfl) ?_
  refine lv_iload_n hx hb dL_packed_3 rfl (lv_at hl 1 rfl) ?_
  refine lv_iload_n hx hb dL_packed_4 rfl (lv_at hl 2 rfl) ?_
  refine x_VX (i := 0) (As := [.int (nI j), .int r]) (rest := [.int 0, .ref (a 21)]) (kX_packed_w hl9 hA hsX0 ⟨hsM15, hsM16, hsM17, hsM18, hsM19, hsM20⟩ j r hj hn hw) calX_packed cvX_packed mlL_76 hx hb hml hown hts hB hG hK hS hXS (by decide) hsX0 rfl ⟨by decide, by decide⟩ rfl hl.1 rfl (Nat.le_of_ble_eq_true rfl) dL_packed_5 ⟨by decide, by decide⟩ (fun ce q9 H locs hG hS hce hcv hcl => ?_)
  refine vx_catch (E := eIOB) (name := eIOB) hown [] ⟨0, 10, 13, 25⟩ [] (htab.trans rfl) (fun _ h => nomatch h) (by decide) (by decide) (hts _ clL_25) (va_Nw.use rfl (hXS.2.2.2.1 (.castable eIOB eIOB) (by decide +kernel))) hce hcv hcl ?_
  refine lv_astore (lv' := [(4, .ref q9), (0, .ref (a 0)), (1, .int (nI j)), (2, .int r), (3, .ref (a 21))]) hx hb dL_packed_13 hl (by decide) rfl (fun ls hl => ?_)
  refine lv_iconst (v := 1) hx hb dL_packed_15 (by decide) ?_
  exact g_iret hQ hx hb hr hlk hG hK hS (by decide) (by decide) ⟨by first | rfl | omega | (simp_all; done) | grind, rfl⟩ dL_packed_16
