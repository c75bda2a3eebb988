abbrev rmD_thrown : Room := { frames := 0, cells := 0, slots := 0, locals := 0 }
set_option maxRecDepth 100000 in
set_option maxHeartbeats 4000000 in
theorem kD_thrown {l : Launch} {D : va_G} {k : ClassId × ClassId × ClassId} {a : Nat → Nat} {B0 : Nat} {w : Nat → va_E} (hA : gA B0 a) {th : Int32} {n : Nat} {nr : Nat} {nf : Nat} {bw : Int32} {bd : Int32} {nt : Nat} (hsD : sD k a w th n nr nf bw bd nt)  : Met l yD_thrown (tbw yD_thrown cD_thrown 1 (some .int)) rmD_thrown (gPc D k a B0 w [.ref (a 22)]) (va_Qi (roP th w) (gB D k a) (gF B0)) 0 0 (gF B0) := by
  have hsD22 := hsD
  refine g_ofW (by decide) rfl (fun p e s m args below meth c Q hQ hx hb hr hlk hml hown hts hB hG hK hS ls hl => ?_)
  have hl : lv_has ls 1 [(0, .ref (a 22))] := hl
  have hown : s.vm.findClass RD = some m.cls := hown
  refine lv_aload_n hx hb dD_thrown_0 rfl (lv_at hl 0 rfl) ?_
  refine g_get hx hb hts inD hown hK hG 22 (by decide) hsD22 rfl 0 (by decide) lkD_63 rfl dD_thrown_1 ?_
  exact g_iret hQ hx hb hr hlk hG hK hS (by decide) (by decide) ⟨by first | rfl | omega | (simp_all; done) | grind, rfl⟩ dD_thrown_4

abbrev rmD_throwing : Room := { frames := 0, cells := 0, slots := 0, locals := 0 }
set_option maxRecDepth 100000 in
set_option maxHeartbeats 4000000 in
theorem kD_throwing {l : Launch} {D : va_G} {k : ClassId × ClassId × ClassId} {a : Nat → Nat} {B0 : Nat} {w : Nat → va_E} (hA : gA B0 a) {th : Int32} {n : Nat} {nr : Nat} {nf : Nat} {bw : Int32} {bd : Int32} {nt : Nat} (hsD : sD k a w th n nr nf bw bd nt) (x : Int32) (y : Int32) (z : Int32) : Met l yD_throwing (tbw yD_throwing cD_throwing 4 (some .boolean)) rmD_throwing (gPc D k a B0 w [.ref (a 22), .int x, .int y, .int z]) (va_Qi (fun rr9 w1 => rr9 = (b2i (0 < thrI x y z)) ∧ (sD k a w1 (thrI x y z) n nr nf bw bd nt) ∧ ∀ z, z < 22 ∨ 22 < z → w1 z = w z) (gB D k a) (gF B0)) 0 0 (gF B0) := by
  have hsD22 := hsD
  refine g_ofW (by decide) rfl (fun p e s m args below meth c Q hQ hx hb hr hlk hml hown hts hB hG hK hS ls hl => ?_)
  have hl : lv_has ls 4 [(0, .ref (a 22)), (1, .int x), (2, .int y), (3, .int z)] := hl
  have hown : s.vm.findClass RD = some m.cls := hown
  have hfr0 : ∀ z, z < 22 ∨ 22 < z → w z = w z := fun _ _ => rfl
  refine lv_aload_n hx hb dD_throwing_0 rfl (lv_at hl 0 rfl) ?_
  refine lv_iload_n hx hb dD_throwing_1 rfl (lv_at hl 1 rfl) ?_
  refine lv_if_eq (tgt := 9) hx hb dD_throwing_2 (by decide) (fun c1 => ?_) (fun c1 => ?_)
  · refine lv_iload_n hx hb dD_throwing_9 rfl (lv_at hl 2 rfl) ?_
    refine lv_if_eq (tgt := 17) hx hb dD_throwing_10 (by decide) (fun c2 => ?_) (fun c2 => ?_)
    · refine lv_iload_n hx hb dD_throwing_17 rfl (lv_at hl 3 rfl) ?_
      refine lv_if_eq (tgt := 25) hx hb dD_throwing_18 (by decide) (fun c3 => ?_) (fun c3 => ?_)
      · refine lv_iconst (v := 0) hx hb dD_throwing_25 (by decide) ?_
        refine g_put hx hb hts inD tyD tokD nokD hown hK hA hG hS 22 (by decide) hsD22 rfl 0 (by decide) lkD_63 rfl (ty := .int) (by decide +kernel) rfl rfl (Nat.le_of_ble_eq_true rfl) dD_throwing_26 (fun H locs hG hS => ?_)
        obtain ⟨w4, hw5⟩ : ∃ zz9, zz9 = va_up w 22 (.inr (5, [.int 0, .int (nI n), .ref (a 23), .ref (a 24), .ref (a 25), .ref (a 26), .ref (a 27), .ref (a 28), .ref (a 29), .int (nI nr), .ref (a 30), .ref (a 31), .int (nI nf), .ref (a 32), .ref (a 33), .int bw, .int bd, .int (nI nt), .ref (a 34), .ref (a 35), .ref (a 36), .ref (a 37)])) := ⟨_, rfl⟩
        replace hG : gW D a w4 H := by rw [hw5]; exact hG
        have h6 : w4 22 = .inr (5, [.int 0, .int (nI n), .ref (a 23), .ref (a 24), .ref (a 25), .ref (a 26), .ref (a 27), .ref (a 28), .ref (a 29), .int (nI nr), .ref (a 30), .ref (a 31), .int (nI nf), .ref (a 32), .ref (a 33), .int bw, .int bd, .int (nI nt), .ref (a 34), .ref (a 35), .ref (a 36), .ref (a 37)]) := by rw [hw5]; rfl
        have hfr7 : ∀ z, z < 22 ∨ 22 < z → w4 z = w z := fun z hz => by rw [hw5]; exact (va_up_ne _ _ (by omega)).trans (hfr0 z hz)
        refine lv_aload_n hx hb dD_throwing_29 rfl (lv_at hl 0 rfl) ?_
        refine g_get hx hb hts inD hown hK hG 22 (by decide) h6 rfl 0 (by decide) lkD_63 rfl dD_throwing_30 ?_
        refine lv_if_le (tgt := 40) hx hb dD_throwing_33 (by decide) (fun _ => ?_) (fun h9 => absurd h9 (by decide))
        refine lv_iconst (v := 0) hx hb dD_throwing_40 (by decide) ?_
        exact g_zret hQ hx hb hr hlk hG hK hS (by decide) (by decide) (by decide) ⟨(b2i_f (by rw [show thrI x y z = 0 from thrI_0 (by assumption) (by assumption) (by assumption)]; decide)).symm, (by rw [show thrI x y z = 0 from thrI_0 (by assumption) (by assumption) (by assumption)]; exact h6), hfr7⟩ dD_throwing_41
      · refine lv_iconst (v := 3) hx hb dD_throwing_21 (by decide) ?_
        refine lv_goto (tgt := 26) hx hb dD_throwing_22 (by decide) ?_
        refine g_put hx hb hts inD tyD tokD nokD hown hK hA hG hS 22 (by decide) hsD22 rfl 0 (by decide) lkD_63 rfl (ty := .int) (by decide +kernel) rfl rfl (Nat.le_of_ble_eq_true rfl) dD_throwing_26 (fun H locs hG hS => ?_)
        obtain ⟨w9, hw10⟩ : ∃ zz9, zz9 = va_up w 22 (.inr (5, [.int 3, .int (nI n), .ref (a 23), .ref (a 24), .ref (a 25), .ref (a 26), .ref (a 27), .ref (a 28), .ref (a 29), .int (nI nr), .ref (a 30), .ref (a 31), .int (nI nf), .ref (a 32), .ref (a 33), .int bw, .int bd, .int (nI nt), .ref (a 34), .ref (a 35), .ref (a 36), .ref (a 37)])) := ⟨_, rfl⟩
        replace hG : gW D a w9 H := by rw [hw10]; exact hG
        have h11 : w9 22 = .inr (5, [.int 3, .int (nI n), .ref (a 23), .ref (a 24), .ref (a 25), .ref (a 26), .ref (a 27), .ref (a 28), .ref (a 29), .int (nI nr), .ref (a 30), .ref (a 31), .int (nI nf), .ref (a 32), .ref (a 33), .int bw, .int bd, .int (nI nt), .ref (a 34), .ref (a 35), .ref (a 36), .ref (a 37)]) := by rw [hw10]; rfl
        have hfr12 : ∀ z, z < 22 ∨ 22 < z → w9 z = w z := fun z hz => by rw [hw10]; exact (va_up_ne _ _ (by omega)).trans (hfr0 z hz)
        refine lv_aload_n hx hb dD_throwing_29 rfl (lv_at hl 0 rfl) ?_
        refine g_get hx hb hts inD hown hK hG 22 (by decide) h11 rfl 0 (by decide) lkD_63 rfl dD_throwing_30 ?_
        refine lv_if_le (tgt := 40) hx hb dD_throwing_33 (by decide) (fun h9 => absurd h9 (by decide)) (fun _ => ?_)
        refine lv_iconst (v := 1) hx hb dD_throwing_36 (by decide) ?_
        refine lv_goto (tgt := 41) hx hb dD_throwing_37 (by decide) ?_
        exact g_zret hQ hx hb hr hlk hG hK hS (by decide) (by decide) (by decide) ⟨(b2i_t (by rw [show thrI x y z = 3 from thrI_3 (by assumption) (by assumption) (by assumption)]; decide)).symm, (by rw [show thrI x y z = 3 from thrI_3 (by assumption) (by assumption) (by assumption)]; exact h11), hfr12⟩ dD_throwing_41
    · refine lv_iconst (v := 2) hx hb dD_throwing_13 (by decide) ?_
      refine lv_goto (tgt := 26) hx hb dD_throwing_14 (by decide) ?_
      refine g_put hx hb hts inD tyD tokD nokD hown hK hA hG hS 22 (by decide) hsD22 rfl 0 (by decide) lkD_63 rfl (ty := .int) (by decide +kernel) rfl rfl (Nat.le_of_ble_eq_true rfl) dD_throwing_26 (fun H locs hG hS => ?_)
      obtain ⟨w14, hw15⟩ : ∃ zz9, zz9 = va_up w 22 (.inr (5, [.int 2, .int (nI n), .ref (a 23), .ref (a 24), .ref (a 25), .ref (a 26), .ref (a 27), .ref (a 28), .ref (a 29), .int (nI nr), .ref (a 30), .ref (a 31), .int (nI nf), .ref (a 32), .ref (a 33), .int bw, .int bd, .int (nI nt), .ref (a 34), .ref (a 35), .ref (a 36), .ref (a 37)])) := ⟨_, rfl⟩
      replace hG : gW D a w14 H := by rw [hw15]; exact hG
      have h16 : w14 22 = .inr (5, [.int 2, .int (nI n), .ref (a 23), .ref (a 24), .ref (a 25), .ref (a 26), .ref (a 27), .ref (a 28), .ref (a 29), .int (nI nr), .ref (a 30), .ref (a 31), .int (nI nf), .ref (a 32), .ref (a 33), .int bw, .int bd, .int (nI nt), .ref (a 34), .ref (a 35), .ref (a 36), .ref (a 37)]) := by rw [hw15]; rfl
      have hfr17 : ∀ z, z < 22 ∨ 22 < z → w14 z = w z := fun z hz => by rw [hw15]; exact (va_up_ne _ _ (by omega)).trans (hfr0 z hz)
      refine lv_aload_n hx hb dD_throwing_29 rfl (lv_at hl 0 rfl) ?_
      refine g_get hx hb hts inD hown hK hG 22 (by decide) h16 rfl 0 (by decide) lkD_63 rfl dD_throwing_30 ?_
      refine lv_if_le (tgt := 40) hx hb dD_throwing_33 (by decide) (fun h9 => absurd h9 (by decide)) (fun _ => ?_)
      refine lv_iconst (v := 1) hx hb dD_throwing_36 (by decide) ?_
      refine lv_goto (tgt := 41) hx hb dD_throwing_37 (by decide) ?_
      exact g_zret hQ hx hb hr hlk hG hK hS (by decide) (by decide) (by decide) ⟨(b2i_t (by rw [show thrI x y z = 2 from thrI_2 (by assumption) (by assumption)]; decide)).symm, (by rw [show thrI x y z = 2 from thrI_2 (by assumption) (by assumption)]; exact h16), hfr17⟩ dD_throwing_41
  · refine lv_iconst (v := 1) hx hb dD_throwing_5 (by decide) ?_
    refine lv_goto (tgt := 26) hx hb dD_throwing_6 (by decide) ?_
    refine g_put hx hb hts inD tyD tokD nokD hown hK hA hG hS 22 (by decide) hsD22 rfl 0 (by decide) lkD_63 rfl (ty := .int) (by decide +kernel) rfl rfl (Nat.le_of_ble_eq_true rfl) dD_throwing_26 (fun H locs hG hS => ?_)
    obtain ⟨w19, hw20⟩ : ∃ zz9, zz9 = va_up w 22 (.inr (5, [.int 1, .int (nI n), .ref (a 23), .ref (a 24), .ref (a 25), .ref (a 26), .ref (a 27), .ref (a 28), .ref (a 29), .int (nI nr), .ref (a 30), .ref (a 31), .int (nI nf), .ref (a 32), .ref (a 33), .int bw, .int bd, .int (nI nt), .ref (a 34), .ref (a 35), .ref (a 36), .ref (a 37)])) := ⟨_, rfl⟩
    replace hG : gW D a w19 H := by rw [hw20]; exact hG
    have h21 : w19 22 = .inr (5, [.int 1, .int (nI n), .ref (a 23), .ref (a 24), .ref (a 25), .ref (a 26), .ref (a 27), .ref (a 28), .ref (a 29), .int (nI nr), .ref (a 30), .ref (a 31), .int (nI nf), .ref (a 32), .ref (a 33), .int bw, .int bd, .int (nI nt), .ref (a 34), .ref (a 35), .ref (a 36), .ref (a 37)]) := by rw [hw20]; rfl
    have hfr22 : ∀ z, z < 22 ∨ 22 < z → w19 z = w z := fun z hz => by rw [hw20]; exact (va_up_ne _ _ (by omega)).trans (hfr0 z hz)
    refine lv_aload_n hx hb dD_throwing_29 rfl (lv_at hl 0 rfl) ?_
    refine g_get hx hb hts inD hown hK hG 22 (by decide) h21 rfl 0 (by decide) lkD_63 rfl dD_throwing_30 ?_
    refine lv_if_le (tgt := 40) hx hb dD_throwing_33 (by decide) (fun h9 => absurd h9 (by decide)) (fun _ => ?_)
    refine lv_iconst (v := 1) hx hb dD_throwing_36 (by decide) ?_
    refine lv_goto (tgt := 41) hx hb dD_throwing_37 (by decide) ?_
    exact g_zret hQ hx hb hr hlk hG hK hS (by decide) (by decide) (by decide) ⟨(b2i_t (by rw [show thrI x y z = 1 from thrI_1 (by assumption)]; decide)).symm, (by rw [show thrI x y z = 1 from thrI_1 (by assumption)]; exact h21), hfr22⟩ dD_throwing_41

abbrev rmD_in : Room := { frames := 0, cells := 0, slots := 0, locals := 0 }
set_option maxRecDepth 100000 in
set_option maxHeartbeats 4000000 in
theorem kD_in {l : Launch} {D : va_G} {k : ClassId × ClassId × ClassId} {a : Nat → Nat} {B0 : Nat} {w : Nat → va_E} (hA : gA B0 a)  (v : Int32) (x : Int32) (y : Int32) : Met l yD_in (tbw yD_in cD_in 3 (some .boolean)) rmD_in (gPc D k a B0 w [.int v, .int x, .int y]) (va_Qi (roP (b2i (rngI v x y)) w) (gB D k a) (gF B0)) 0 0 (gF B0) := by
  refine g_ofW (by decide) rfl (fun p e s m args below meth c Q hQ hx hb hr hlk hml hown hts hB hG hK hS ls hl => ?_)
  have hl : lv_has ls 3 [(0, .int v), (1, .int x), (2, .int y)] := hl
  have hown : s.vm.findClass RD = some m.cls := hown
  refine lv_iload_n hx hb dD_in_0 rfl (lv_at hl 0 rfl) ?_
  refine lv_iload_n hx hb dD_in_1 rfl (lv_at hl 1 rfl) ?_
  refine lv_icmp_lt (tgt := 14) hx hb dD_in_2 (by decide) (fun c1 => ?_) (fun c1 => ?_)
  · refine lv_iconst (v := 0) hx hb dD_in_14 (by decide) ?_
    exact g_zret hQ hx hb hr hlk hG hK hS (by decide) (by decide) (by decide) ⟨(b2i_f (by unfold rngI; simp_all)).symm, rfl⟩ dD_in_15
  · refine lv_iload_n hx hb dD_in_5 rfl (lv_at hl 0 rfl) ?_
    refine lv_iload_n hx hb dD_in_6 rfl (lv_at hl 2 rfl) ?_
    refine lv_icmp_gt (tgt := 14) hx hb dD_in_7 (by decide) (fun c2 => ?_) (fun c2 => ?_)
    · refine lv_iconst (v := 0) hx hb dD_in_14 (by decide) ?_
      exact g_zret hQ hx hb hr hlk hG hK hS (by decide) (by decide) (by decide) ⟨(b2i_f (by unfold rngI; simp_all)).symm, rfl⟩ dD_in_15
    · refine lv_iconst (v := 1) hx hb dD_in_10 (by decide) ?_
      refine lv_goto (tgt := 15) hx hb dD_in_11 (by decide) ?_
      exact g_zret hQ hx hb hr hlk hG hK hS (by decide) (by decide) (by decide) ⟨(b2i_t (by unfold rngI; simp_all)).symm, rfl⟩ dD_in_15

abbrev rmD_isSize : Room := { frames := 1, cells := 0, slots := 0, locals := 22 }
set_option maxRecDepth 100000 in
set_option maxHeartbeats 4000000 in
theorem kD_isSize {l : Launch} {D : va_G} {k : ClassId × ClassId × ClassId} {a : Nat → Nat} {B0 : Nat} {w : Nat → va_E} (hA : gA B0 a)  (v : Int32) : Met l yD_isSize (tbw yD_isSize cD_isSize 1 (some .boolean)) rmD_isSize (gPc D k a B0 w [.int v]) (va_Qi (roP (b2i (szR v)) w) (gB D k a) (gF B0)) 0 0 (gF B0) := by
  refine g_ofW (by decide) rfl (fun p e s m args below meth c Q hQ hx hb hr hlk hml hown hts hB hG hK hS ls hl => ?_)
  have hl : lv_has ls 1 [(0, .int v)] := hl
  have hown : s.vm.findClass RD = some m.cls := hown
  refine lv_iload_n hx hb dD_isSize_0 rfl (lv_at hl 0 rfl) ?_
  refine lv_iconst (v := 1) hx hb dD_isSize_1 (by decide) ?_
  refine lv_sipush (v := 1000) hx hb dD_isSize_2 (by decide) ?_
  refine g_SiR (As := [.int v, .int 1, .int 1000]) (rest := []) (kD_in hA v 1 1000) calD_in cvD_in mlD_66 hx hb hml hown hts hB hG hK hS ⟨by decide, by decide⟩ rfl hl.1 rfl (Nat.le_of_ble_eq_true rfl) dD_isSize_5 ⟨by decide, by decide⟩ (fun H locs hG hS => ?_)
  exact g_zret hQ hx hb hr hlk hG hK hS (by decide) (by decide) (b2i_nar _) ⟨b2i_c (by rfl), rfl⟩ dD_isSize_8

abbrev rmD_isWide : Room := { frames := 1, cells := 0, slots := 0, locals := 22 }
set_option maxRecDepth 100000 in
set_option maxHeartbeats 4000000 in
theorem kD_isWide {l : Launch} {D : va_G} {k : ClassId × ClassId × ClassId} {a : Nat → Nat} {B0 : Nat} {w : Nat → va_E} (hA : gA B0 a)  (v : Int32) : Met l yD_isWide (tbw yD_isWide cD_isWide 1 (some .boolean)) rmD_isWide (gPc D k a B0 w [.int v]) (va_Qi (roP (b2i (wdR v)) w) (gB D k a) (gF B0)) 0 0 (gF B0) := by
  refine g_ofW (by decide) rfl (fun p e s m args below meth c Q hQ hx hb hr hlk hml hown hts hB hG hK hS ls hl => ?_)
  have hl : lv_has ls 1 [(0, .int v)] := hl
  have hown : s.vm.findClass RD = some m.cls := hown
  refine lv_iload_n hx hb dD_isWide_0 rfl (lv_at hl 0 rfl) ?_
  refine lv_iconst (v := 1) hx hb dD_isWide_1 (by decide) ?_
  refine lv_sipush (v := 2000) hx hb dD_isWide_2 (by decide) ?_
  refine g_SiR (As := [.int v, .int 1, .int 2000]) (rest := []) (kD_in hA v 1 2000) calD_in cvD_in mlD_66 hx hb hml hown hts hB hG hK hS ⟨by decide, by decide⟩ rfl hl.1 rfl (Nat.le_of_ble_eq_true rfl) dD_isWide_5 ⟨by decide, by decide⟩ (fun H locs hG hS => ?_)
  exact g_zret hQ hx hb hr hlk hG hK hS (by decide) (by decide) (b2i_nar _) ⟨b2i_c (by rfl), rfl⟩ dD_isWide_8

abbrev rmD_isPart : Room := { frames := 1, cells := 0, slots := 0, locals := 22 }
set_option maxRecDepth 100000 in
set_option maxHeartbeats 4000000 in
theorem kD_isPart {l : Launch} {D : va_G} {k : ClassId × ClassId × ClassId} {a : Nat → Nat} {B0 : Nat} {w : Nat → va_E} (hA : gA B0 a) {th : Int32} {n : Nat} {nr : Nat} {nf : Nat} {bw : Int32} {bd : Int32} {nt : Nat} (hsD : sD k a w th n nr nf bw bd nt) (q : Int32) : Met l yD_isPart (tbw yD_isPart cD_isPart 2 (some .boolean)) rmD_isPart (gPc D k a B0 w [.ref (a 22), .int q]) (va_Qi (roP (b2i (rngI q 0 (nI n - 1))) w) (gB D k a) (gF B0)) 0 0 (gF B0) := by
  have hsD22 := hsD
  refine g_ofW (by decide) rfl (fun p e s m args below meth c Q hQ hx hb hr hlk hml hown hts hB hG hK hS ls hl => ?_)
  have hl : lv_has ls 2 [(0, .ref (a 22)), (1, .int q)] := hl
  have hown : s.vm.findClass RD = some m.cls := hown
  refine lv_iload_n hx hb dD_isPart_0 rfl (lv_at hl 1 rfl) ?_
  refine lv_iconst (v := 0) hx hb dD_isPart_1 (by decide) ?_
  refine lv_aload_n hx hb dD_isPart_2 rfl (lv_at hl 0 rfl) ?_
  refine g_get hx hb hts inD hown hK hG 22 (by decide) hsD22 rfl 1 (by decide) lkD_70 rfl dD_isPart_3 ?_
  refine lv_iconst (v := 1) hx hb dD_isPart_6 (by decide) ?_
  refine lv_isub hx hb dD_isPart_7 ?_
  refine g_SiR (As := [.int q, .int 0, .int ((nI n) - 1)]) (rest := []) (kD_in hA q 0 ((nI n) - 1)) calD_in cvD_in mlD_66 hx hb hml hown hts hB hG hK hS ⟨by decide, by decide⟩ rfl hl.1 rfl (Nat.le_of_ble_eq_true rfl) dD_isPart_8 ⟨by decide, by decide⟩ (fun H locs hG hS => ?_)
  exact g_zret hQ hx hb hr hlk hG hK hS (by decide) (by decide) (b2i_nar _) ⟨b2i_c (by rfl), rfl⟩ dD_isPart_11

abbrev rmD_add : Room := { frames := 0, cells := 0, slots := 0, locals := 0 }
set_option maxRecDepth 100000 in
set_option maxHeartbeats 4000000 in
theorem kD_add {l : Launch} {D : va_G} {k : ClassId × ClassId × ClassId} {a : Nat → Nat} {B0 : Nat} {w : Nat → va_E} (hA : gA B0 a) {th : Int32} {n : Nat} {nr : Nat} {nf : Nat} {bw : Int32} {bd : Int32} {nt : Nat} {rd : Nat → Int32} {ma : Nat → Int32} {mb : Nat → Int32} {mc : Nat → Int32} {co : Nat → Int32} {jn : Nat → Int32} {ro : Nat → Int32} (hsD : sD k a w th n nr nf bw bd nt) (hsDP : sDP k a w rd ma mb mc co jn ro) (P : Prop) (x : Int32) (y : Int32) (z : Int32) (hn : n < 12) : Met l yD_add (tbw yD_add cD_add 6 (some .int)) rmD_add (gPc D k a B0 w [.ref (a 22), .int (b2i P), .int x, .int y, .int z]) (va_Qi (fun rr9 w1 => rr9 = (nI n) ∧ (sD k a w1 th (n + 1) nr nf bw bd nt) ∧ (sDP k a w1 (upd rd n (b2i P)) (upd ma n x) (upd mb n y) (upd mc n z) (co6 co n) jn (upd ro n (-1))) ∧ ∀ z, z < 22 ∨ 29 < z → w1 z = w z) (gB D k a) (gF B0)) 0 0 (gF B0) := by
  have hsD22 := hsD
  obtain ⟨hsDP23, hsDP24, hsDP25, hsDP26, hsDP27, hsDP28, hsDP29⟩ := hsDP
  refine g_ofW (by decide) rfl (fun p e s m args below meth c Q hQ hx hb hr hlk hml hown hts hB hG hK hS ls hl => ?_)
  have hl : lv_has ls 6 [(0, .ref (a 22)), (1, .int (b2i P)), (2, .int x), (3, .int y), (4, .int z)] := hl
  have hown : s.vm.findClass RD = some m.cls := hown
  have hfr0 : ∀ z, z < 22 ∨ 29 < z → w z = w z := fun _ _ => rfl
  refine lv_aload_n hx hb dD_add_0 rfl (lv_at hl 0 rfl) ?_
  refine g_get hx hb hts inD hown hK hG 22 (by decide) hsD22 rfl 2 (by decide) lkD_7 rfl dD_add_1 ?_
  refine lv_aload_n hx hb dD_add_4 rfl (lv_at hl 0 rfl) ?_
  refine g_get hx hb hts inD hown hK hG 22 (by decide) hsD22 rfl 1 (by decide) lkD_70 rfl dD_add_5 ?_
  refine lv_iload_n hx hb dD_add_8 rfl (lv_at hl 1 rfl) ?_
  refine g_zast hx hb hK hA hG hS 23 (by decide) hsDP23 (j := n) (by omega) (by decide) dD_add_9 (fun H locs hG hS => ?_)
  obtain ⟨w1, hw2⟩ : ∃ zz9, zz9 = va_up w 23 (.inl (k.2.2, 12, .inl (upd rd n (b2i P)))) := ⟨_, rfl⟩
  replace hG : gW D a w1 H := by rw [hw2]; exact hG
  have h3 : w1 22 = .inr (5, [.int th, .int (nI n), .ref (a 23), .ref (a 24), .ref (a 25), .ref (a 26), .ref (a 27), .ref (a 28), .ref (a 29), .int (nI nr), .ref (a 30), .ref (a 31), .int (nI nf), .ref (a 32), .ref (a 33), .int bw, .int bd, .int (nI nt), .ref (a 34), .ref (a 35), .ref (a 36), .ref (a 37)]) := by rw [hw2]; exact hsD22
  have h4 : w1 23 = .inl (k.2.2, 12, .inl (upd rd n (b2i P))) := by rw [hw2]; rfl
  have h5 : w1 24 = .inl (k.1, 12, .inl ma) := by rw [hw2]; exact hsDP24
  have h6 : w1 25 = .inl (k.1, 12, .inl mb) := by rw [hw2]; exact hsDP25
  have h7 : w1 26 = .inl (k.1, 12, .inl mc) := by rw [hw2]; exact hsDP26
  have h8 : w1 27 = .inl (k.1, 72, .inl co) := by rw [hw2]; exact hsDP27
  have h9 : w1 28 = .inl (k.1, 12, .inl jn) := by rw [hw2]; exact hsDP28
  have h10 : w1 29 = .inl (k.1, 12, .inl ro) := by rw [hw2]; exact hsDP29
  have hfr11 : ∀ z, z < 22 ∨ 29 < z → w1 z = w z := fun z hz => by rw [hw2]; exact (va_up_ne _ _ (by omega)).trans (hfr0 z hz)
  refine lv_aload_n hx hb dD_add_10 rfl (lv_at hl 0 rfl) ?_
  refine g_get hx hb hts inD hown hK hG 22 (by decide) h3 rfl 3 (by decide) lkD_13 rfl dD_add_11 ?_
  refine lv_aload_n hx hb dD_add_14 rfl (lv_at hl 0 rfl) ?_
  refine g_get hx hb hts inD hown hK hG 22 (by decide) h3 rfl 1 (by decide) lkD_70 rfl dD_add_15 ?_
  refine lv_iload_n hx hb dD_add_18 rfl (lv_at hl 2 rfl) ?_
  refine g_iast hx hb hK hA hG hS 24 (by decide) h5 (j := n) (by omega) (by decide) dD_add_19 (fun H locs hG hS => ?_)
  obtain ⟨w12, hw13⟩ : ∃ zz9, zz9 = va_up w1 24 (.inl (k.1, 12, .inl (upd ma n x))) := ⟨_, rfl⟩
  replace hG : gW D a w12 H := by rw [hw13]; exact hG
  have h14 : w12 22 = .inr (5, [.int th, .int (nI n), .ref (a 23), .ref (a 24), .ref (a 25), .ref (a 26), .ref (a 27), .ref (a 28), .ref (a 29), .int (nI nr), .ref (a 30), .ref (a 31), .int (nI nf), .ref (a 32), .ref (a 33), .int bw, .int bd, .int (nI nt), .ref (a 34), .ref (a 35), .ref (a 36), .ref (a 37)]) := by rw [hw13]; exact h3
  have h15 : w12 23 = .inl (k.2.2, 12, .inl (upd rd n (b2i P))) := by rw [hw13]; exact h4
  have h16 : w12 24 = .inl (k.1, 12, .inl (upd ma n x)) := by rw [hw13]; rfl
  have h17 : w12 25 = .inl (k.1, 12, .inl mb) := by rw [hw13]; exact h6
  have h18 : w12 26 = .inl (k.1, 12, .inl mc) := by rw [hw13]; exact h7
  have h19 : w12 27 = .inl (k.1, 72, .inl co) := by rw [hw13]; exact h8
  have h20 : w12 28 = .inl (k.1, 12, .inl jn) := by rw [hw13]; exact h9
  have h21 : w12 29 = .inl (k.1, 12, .inl ro) := by rw [hw13]; exact h10
  have hfr22 : ∀ z, z < 22 ∨ 29 < z → w12 z = w z := fun z hz => by rw [hw13]; exact (va_up_ne _ _ (by omega)).trans (hfr11 z hz)
  refine lv_aload_n hx hb dD_add_20 rfl (lv_at hl 0 rfl) ?_
  refine g_get hx hb hts inD hown hK hG 22 (by decide) h14 rfl 4 (by decide) lkD_17 rfl dD_add_21 ?_
  refine lv_aload_n hx hb dD_add_24 rfl (lv_at hl 0 rfl) ?_
  refine g_get hx hb hts inD hown hK hG 22 (by decide) h14 rfl 1 (by decide) lkD_70 rfl dD_add_25 ?_
  refine lv_iload_n hx hb dD_add_28 rfl (lv_at hl 3 rfl) ?_
  refine g_iast hx hb hK hA hG hS 25 (by decide) h17 (j := n) (by omega) (by decide) dD_add_29 (fun H locs hG hS => ?_)
  obtain ⟨w23, hw24⟩ : ∃ zz9, zz9 = va_up w12 25 (.inl (k.1, 12, .inl (upd mb n y))) := ⟨_, rfl⟩
  replace hG : gW D a w23 H := by rw [hw24]; exact hG
  have h25 : w23 22 = .inr (5, [.int th, .int (nI n), .ref (a 23), .ref (a 24), .ref (a 25), .ref (a 26), .ref (a 27), .ref (a 28), .ref (a 29), .int (nI nr), .ref (a 30), .ref (a 31), .int (nI nf), .ref (a 32), .ref (a 33), .int bw, .int bd, .int (nI nt), .ref (a 34), .ref (a 35), .ref (a 36), .ref (a 37)]) := by rw [hw24]; exact h14
  have h26 : w23 23 = .inl (k.2.2, 12, .inl (upd rd n (b2i P))) := by rw [hw24]; exact h15
  have h27 : w23 24 = .inl (k.1, 12, .inl (upd ma n x)) := by rw [hw24]; exact h16
  have h28 : w23 25 = .inl (k.1, 12, .inl (upd mb n y)) := by rw [hw24]; rfl
  have h29 : w23 26 = .inl (k.1, 12, .inl mc) := by rw [hw24]; exact h18
  have h30 : w23 27 = .inl (k.1, 72, .inl co) := by rw [hw24]; exact h19
  have h31 : w23 28 = .inl (k.1, 12, .inl jn) := by rw [hw24]; exact h20
  have h32 : w23 29 = .inl (k.1, 12, .inl ro) := by rw [hw24]; exact h21
  have hfr33 : ∀ z, z < 22 ∨ 29 < z → w23 z = w z := fun z hz => by rw [hw24]; exact (va_up_ne _ _ (by omega)).trans (hfr22 z hz)
  refine lv_aload_n hx hb dD_add_30 rfl (lv_at hl 0 rfl) ?_
  refine g_get hx hb hts inD hown hK hG 22 (by decide) h25 rfl 5 (by decide) lkD_20 rfl dD_add_31 ?_
  refine lv_aload_n hx hb dD_add_34 rfl (lv_at hl 0 rfl) ?_
  refine g_get hx hb hts inD hown hK hG 22 (by decide) h25 rfl 1 (by decide) lkD_70 rfl dD_add_35 ?_
  refine lv_iload hx hb dD_add_38 (lv_at hl 4 rfl) ?_
  refine g_iast hx hb hK hA hG hS 26 (by decide) h29 (j := n) (by omega) (by decide) dD_add_40 (fun H locs hG hS => ?_)
  obtain ⟨w34, hw35⟩ : ∃ zz9, zz9 = va_up w23 26 (.inl (k.1, 12, .inl (upd mc n z))) := ⟨_, rfl⟩
  replace hG : gW D a w34 H := by rw [hw35]; exact hG
  have h36 : w34 22 = .inr (5, [.int th, .int (nI n), .ref (a 23), .ref (a 24), .ref (a 25), .ref (a 26), .ref (a 27), .ref (a 28), .ref (a 29), .int (nI nr), .ref (a 30), .ref (a 31), .int (nI nf), .ref (a 32), .ref (a 33), .int bw, .int bd, .int (nI nt), .ref (a 34), .ref (a 35), .ref (a 36), .ref (a 37)]) := by rw [hw35]; exact h25
  have h37 : w34 23 = .inl (k.2.2, 12, .inl (upd rd n (b2i P))) := by rw [hw35]; exact h26
  have h38 : w34 24 = .inl (k.1, 12, .inl (upd ma n x)) := by rw [hw35]; exact h27
  have h39 : w34 25 = .inl (k.1, 12, .inl (upd mb n y)) := by rw [hw35]; exact h28
  have h40 : w34 26 = .inl (k.1, 12, .inl (upd mc n z)) := by rw [hw35]; rfl
  have h41 : w34 27 = .inl (k.1, 72, .inl co) := by rw [hw35]; exact h30
  have h42 : w34 28 = .inl (k.1, 12, .inl jn) := by rw [hw35]; exact h31
  have h43 : w34 29 = .inl (k.1, 12, .inl ro) := by rw [hw35]; exact h32
  have hfr44 : ∀ z, z < 22 ∨ 29 < z → w34 z = w z := fun z hz => by rw [hw35]; exact (va_up_ne _ _ (by omega)).trans (hfr33 z hz)
  refine lv_aload_n hx hb dD_add_41 rfl (lv_at hl 0 rfl) ?_
  refine g_get hx hb hts inD hown hK hG 22 (by decide) h36 rfl 8 (by decide) lkD_29 rfl dD_add_42 ?_
  refine lv_aload_n hx hb dD_add_45 rfl (lv_at hl 0 rfl) ?_
  refine g_get hx hb hts inD hown hK hG 22 (by decide) h36 rfl 1 (by decide) lkD_70 rfl dD_add_46 ?_
  refine lv_iconst (v := (-1)) hx hb dD_add_49 (by decide) ?_
  refine g_iast hx hb hK hA hG hS 29 (by decide) h43 (j := n) (by omega) (by decide) dD_add_50 (fun H locs hG hS => ?_)
  obtain ⟨w45, hw46⟩ : ∃ zz9, zz9 = va_up w34 29 (.inl (k.1, 12, .inl (upd ro n (-1)))) := ⟨_, rfl⟩
  replace hG : gW D a w45 H := by rw [hw46]; exact hG
  have h47 : w45 22 = .inr (5, [.int th, .int (nI n), .ref (a 23), .ref (a 24), .ref (a 25), .ref (a 26), .ref (a 27), .ref (a 28), .ref (a 29), .int (nI nr), .ref (a 30), .ref (a 31), .int (nI nf), .ref (a 32), .ref (a 33), .int bw, .int bd, .int (nI nt), .ref (a 34), .ref (a 35), .ref (a 36), .ref (a 37)]) := by rw [hw46]; exact h36
  have h48 : w45 23 = .inl (k.2.2, 12, .inl (upd rd n (b2i P))) := by rw [hw46]; exact h37
  have h49 : w45 24 = .inl (k.1, 12, .inl (upd ma n x)) := by rw [hw46]; exact h38
  have h50 : w45 25 = .inl (k.1, 12, .inl (upd mb n y)) := by rw [hw46]; exact h39
  have h51 : w45 26 = .inl (k.1, 12, .inl (upd mc n z)) := by rw [hw46]; exact h40
  have h52 : w45 27 = .inl (k.1, 72, .inl co) := by rw [hw46]; exact h41
  have h53 : w45 28 = .inl (k.1, 12, .inl jn) := by rw [hw46]; exact h42
  have h54 : w45 29 = .inl (k.1, 12, .inl (upd ro n (-1))) := by rw [hw46]; rfl
  have hfr55 : ∀ z, z < 22 ∨ 29 < z → w45 z = w z := fun z hz => by rw [hw46]; exact (va_up_ne _ _ (by omega)).trans (hfr44 z hz)
  refine lv_iconst (v := 0) hx hb dD_add_51 (by decide) ?_
  refine lv_istore (lv' := [(5, .int 0), (0, .ref (a 22)), (1, .int (b2i P)), (2, .int x), (3, .int y), (4, .int z)]) hx hb dD_add_52 hl (by decide) rfl (fun ls hl => ?_)
  refine lv_iload hx hb dD_add_54 (lv_at hl 0 rfl) ?_
  refine lv_bipush (v := 6) hx hb dD_add_56 (by decide) ?_
  refine lv_icmp_ge (tgt := 83) hx hb dD_add_58 (by decide) (fun h9 => absurd h9 (by decide)) (fun _ => ?_)
  refine lv_aload_n hx hb dD_add_61 rfl (lv_at hl 1 rfl) ?_
  refine g_get hx hb hts inD hown hK hG 22 (by decide) h47 rfl 6 (by decide) lkD_23 rfl dD_add_62 ?_
  refine lv_bipush (v := 6) hx hb dD_add_65 (by decide) ?_
  refine lv_aload_n hx hb dD_add_67 rfl (lv_at hl 1 rfl) ?_
  refine g_get hx hb hts inD hown hK hG 22 (by decide) h47 rfl 1 (by decide) lkD_70 rfl dD_add_68 ?_
  refine ln_imul (x := 6) (y := n) hx hb dD_add_71 ?_
  refine lv_iload hx hb dD_add_72 (lv_at hl 0 rfl) ?_
  refine ln_iadd (x := 6 * n) (y := 0) hx hb dD_add_74 ?_
  refine lv_iconst (v := 1) hx hb dD_add_75 (by decide) ?_
  refine g_iast hx hb hK hA hG hS 27 (by decide) h52 (j := (6 * n) + 0) (by omega) (by decide) dD_add_76 (fun H locs hG hS => ?_)
  obtain ⟨w57, hw58⟩ : ∃ zz9, zz9 = va_up w45 27 (.inl (k.1, 72, .inl (upd co ((6 * n) + 0) 1))) := ⟨_, rfl⟩
  replace hG : gW D a w57 H := by rw [hw58]; exact hG
  have h59 : w57 22 = .inr (5, [.int th, .int (nI n), .ref (a 23), .ref (a 24), .ref (a 25), .ref (a 26), .ref (a 27), .ref (a 28), .ref (a 29), .int (nI nr), .ref (a 30), .ref (a 31), .int (nI nf), .ref (a 32), .ref (a 33), .int bw, .int bd, .int (nI nt), .ref (a 34), .ref (a 35), .ref (a 36), .ref (a 37)]) := by rw [hw58]; exact h47
  have h60 : w57 23 = .inl (k.2.2, 12, .inl (upd rd n (b2i P))) := by rw [hw58]; exact h48
  have h61 : w57 24 = .inl (k.1, 12, .inl (upd ma n x)) := by rw [hw58]; exact h49
  have h62 : w57 25 = .inl (k.1, 12, .inl (upd mb n y)) := by rw [hw58]; exact h50
  have h63 : w57 26 = .inl (k.1, 12, .inl (upd mc n z)) := by rw [hw58]; exact h51
  have h64 : w57 27 = .inl (k.1, 72, .inl (upd co ((6 * n) + 0) 1)) := by rw [hw58]; rfl
  have h65 : w57 28 = .inl (k.1, 12, .inl jn) := by rw [hw58]; exact h53
  have h66 : w57 29 = .inl (k.1, 12, .inl (upd ro n (-1))) := by rw [hw58]; exact h54
  have hfr67 : ∀ z, z < 22 ∨ 29 < z → w57 z = w z := fun z hz => by rw [hw58]; exact (va_up_ne _ _ (by omega)).trans (hfr55 z hz)
  refine lv_iinc (v := 1) (lv' := [(5, .int 1), (0, .ref (a 22)), (1, .int (b2i P)), (2, .int x), (3, .int y), (4, .int z)]) hx hb dD_add_77 hl (k := 0) rfl (by decide) (by decide) rfl (fun ls hl => ?_)
  refine lv_goto (tgt := 54) hx hb dD_add_80 (by decide) ?_
  refine lv_iload hx hb dD_add_54 (lv_at hl 0 rfl) ?_
  refine lv_bipush (v := 6) hx hb dD_add_56 (by decide) ?_
  refine lv_icmp_ge (tgt := 83) hx hb dD_add_58 (by decide) (fun h9 => absurd h9 (by decide)) (fun _ => ?_)
  refine lv_aload_n hx hb dD_add_61 rfl (lv_at hl 1 rfl) ?_
  refine g_get hx hb hts inD hown hK hG 22 (by decide) h59 rfl 6 (by decide) lkD_23 rfl dD_add_62 ?_
  refine lv_bipush (v := 6) hx hb dD_add_65 (by decide) ?_
  refine lv_aload_n hx hb dD_add_67 rfl (lv_at hl 1 rfl) ?_
  refine g_get hx hb hts inD hown hK hG 22 (by decide) h59 rfl 1 (by decide) lkD_70 rfl dD_add_68 ?_
  refine ln_imul (x := 6) (y := n) hx hb dD_add_71 ?_
  refine lv_iload hx hb dD_add_72 (lv_at hl 0 rfl) ?_
  refine ln_iadd (x := 6 * n) (y := 1) hx hb dD_add_74 ?_
  refine lv_iconst (v := 1) hx hb dD_add_75 (by decide) ?_
  refine g_iast hx hb hK hA hG hS 27 (by decide) h64 (j := (6 * n) + 1) (by omega) (by decide) dD_add_76 (fun H locs hG hS => ?_)
  obtain ⟨w69, hw70⟩ : ∃ zz9, zz9 = va_up w57 27 (.inl (k.1, 72, .inl (upd (upd co ((6 * n) + 0) 1) ((6 * n) + 1) 1))) := ⟨_, rfl⟩
  replace hG : gW D a w69 H := by rw [hw70]; exact hG
  have h71 : w69 22 = .inr (5, [.int th, .int (nI n), .ref (a 23), .ref (a 24), .ref (a 25), .ref (a 26), .ref (a 27), .ref (a 28), .ref (a 29), .int (nI nr), .ref (a 30), .ref (a 31), .int (nI nf), .ref (a 32), .ref (a 33), .int bw, .int bd, .int (nI nt), .ref (a 34), .ref (a 35), .ref (a 36), .ref (a 37)]) := by rw [hw70]; exact h59
  have h72 : w69 23 = .inl (k.2.2, 12, .inl (upd rd n (b2i P))) := by rw [hw70]; exact h60
  have h73 : w69 24 = .inl (k.1, 12, .inl (upd ma n x)) := by rw [hw70]; exact h61
  have h74 : w69 25 = .inl (k.1, 12, .inl (upd mb n y)) := by rw [hw70]; exact h62
  have h75 : w69 26 = .inl (k.1, 12, .inl (upd mc n z)) := by rw [hw70]; exact h63
  have h76 : w69 27 = .inl (k.1, 72, .inl (upd (upd co ((6 * n) + 0) 1) ((6 * n) + 1) 1)) := by rw [hw70]; rfl
  have h77 : w69 28 = .inl (k.1, 12, .inl jn) := by rw [hw70]; exact h65
  have h78 : w69 29 = .inl (k.1, 12, .inl (upd ro n (-1))) := by rw [hw70]; exact h66
  have hfr79 : ∀ z, z < 22 ∨ 29 < z → w69 z = w z := fun z hz => by rw [hw70]; exact (va_up_ne _ _ (by omega)).trans (hfr67 z hz)
  refine lv_iinc (v := 2) (lv' := [(5, .int 2), (0, .ref (a 22)), (1, .int (b2i P)), (2, .int x), (3, .int y), (4, .int z)]) hx hb dD_add_77 hl (k := 0) rfl (by decide) (by decide) rfl (fun ls hl => ?_)
  refine lv_goto (tgt := 54) hx hb dD_add_80 (by decide) ?_
  refine lv_iload hx hb dD_add_54 (lv_at hl 0 rfl) ?_
  refine lv_bipush (v := 6) hx hb dD_add_56 (by decide) ?_
  refine lv_icmp_ge (tgt := 83) hx hb dD_add_58 (by decide) (fun h9 => absurd h9 (by decide)) (fun _ => ?_)
  refine lv_aload_n hx hb dD_add_61 rfl (lv_at hl 1 rfl) ?_
  refine g_get hx hb hts inD hown hK hG 22 (by decide) h71 rfl 6 (by decide) lkD_23 rfl dD_add_62 ?_
  refine lv_bipush (v := 6) hx hb dD_add_65 (by decide) ?_
  refine lv_aload_n hx hb dD_add_67 rfl (lv_at hl 1 rfl) ?_
  refine g_get hx hb hts inD hown hK hG 22 (by decide) h71 rfl 1 (by decide) lkD_70 rfl dD_add_68 ?_
  refine ln_imul (x := 6) (y := n) hx hb dD_add_71 ?_
  refine lv_iload hx hb dD_add_72 (lv_at hl 0 rfl) ?_
  refine ln_iadd (x := 6 * n) (y := 2) hx hb dD_add_74 ?_
  refine lv_iconst (v := 1) hx hb dD_add_75 (by decide) ?_
  refine g_iast hx hb hK hA hG hS 27 (by decide) h76 (j := (6 * n) + 2) (by omega) (by decide) dD_add_76 (fun H locs hG hS => ?_)
  obtain ⟨w81, hw82⟩ : ∃ zz9, zz9 = va_up w69 27 (.inl (k.1, 72, .inl (upd (upd (upd co ((6 * n) + 0) 1) ((6 * n) + 1) 1) ((6 * n) + 2) 1))) := ⟨_, rfl⟩
  replace hG : gW D a w81 H := by rw [hw82]; exact hG
  have h83 : w81 22 = .inr (5, [.int th, .int (nI n), .ref (a 23), .ref (a 24), .ref (a 25), .ref (a 26), .ref (a 27), .ref (a 28), .ref (a 29), .int (nI nr), .ref (a 30), .ref (a 31), .int (nI nf), .ref (a 32), .ref (a 33), .int bw, .int bd, .int (nI nt), .ref (a 34), .ref (a 35), .ref (a 36), .ref (a 37)]) := by rw [hw82]; exact h71
  have h84 : w81 23 = .inl (k.2.2, 12, .inl (upd rd n (b2i P))) := by rw [hw82]; exact h72
  have h85 : w81 24 = .inl (k.1, 12, .inl (upd ma n x)) := by rw [hw82]; exact h73
  have h86 : w81 25 = .inl (k.1, 12, .inl (upd mb n y)) := by rw [hw82]; exact h74
  have h87 : w81 26 = .inl (k.1, 12, .inl (upd mc n z)) := by rw [hw82]; exact h75
  have h88 : w81 27 = .inl (k.1, 72, .inl (upd (upd (upd co ((6 * n) + 0) 1) ((6 * n) + 1) 1) ((6 * n) + 2) 1)) := by rw [hw82]; rfl
  have h89 : w81 28 = .inl (k.1, 12, .inl jn) := by rw [hw82]; exact h77
  have h90 : w81 29 = .inl (k.1, 12, .inl (upd ro n (-1))) := by rw [hw82]; exact h78
  have hfr91 : ∀ z, z < 22 ∨ 29 < z → w81 z = w z := fun z hz => by rw [hw82]; exact (va_up_ne _ _ (by omega)).trans (hfr79 z hz)
  refine lv_iinc (v := 3) (lv' := [(5, .int 3), (0, .ref (a 22)), (1, .int (b2i P)), (2, .int x), (3, .int y), (4, .int z)]) hx hb dD_add_77 hl (k := 0) rfl (by decide) (by decide) rfl (fun ls hl => ?_)
  refine lv_goto (tgt := 54) hx hb dD_add_80 (by decide) ?_
  refine lv_iload hx hb dD_add_54 (lv_at hl 0 rfl) ?_
  refine lv_bipush (v := 6) hx hb dD_add_56 (by decide) ?_
  refine lv_icmp_ge (tgt := 83) hx hb dD_add_58 (by decide) (fun h9 => absurd h9 (by decide)) (fun _ => ?_)
  refine lv_aload_n hx hb dD_add_61 rfl (lv_at hl 1 rfl) ?_
  refine g_get hx hb hts inD hown hK hG 22 (by decide) h83 rfl 6 (by decide) lkD_23 rfl dD_add_62 ?_
  refine lv_bipush (v := 6) hx hb dD_add_65 (by decide) ?_
  refine lv_aload_n hx hb dD_add_67 rfl (lv_at hl 1 rfl) ?_
  refine g_get hx hb hts inD hown hK hG 22 (by decide) h83 rfl 1 (by decide) lkD_70 rfl dD_add_68 ?_
  refine ln_imul (x := 6) (y := n) hx hb dD_add_71 ?_
  refine lv_iload hx hb dD_add_72 (lv_at hl 0 rfl) ?_
  refine ln_iadd (x := 6 * n) (y := 3) hx hb dD_add_74 ?_
  refine lv_iconst (v := 1) hx hb dD_add_75 (by decide) ?_
  refine g_iast hx hb hK hA hG hS 27 (by decide) h88 (j := (6 * n) + 3) (by omega) (by decide) dD_add_76 (fun H locs hG hS => ?_)
  obtain ⟨w93, hw94⟩ : ∃ zz9, zz9 = va_up w81 27 (.inl (k.1, 72, .inl (upd (upd (upd (upd co ((6 * n) + 0) 1) ((6 * n) + 1) 1) ((6 * n) + 2) 1) ((6 * n) + 3) 1))) := ⟨_, rfl⟩
  replace hG : gW D a w93 H := by rw [hw94]; exact hG
  have h95 : w93 22 = .inr (5, [.int th, .int (nI n), .ref (a 23), .ref (a 24), .ref (a 25), .ref (a 26), .ref (a 27), .ref (a 28), .ref (a 29), .int (nI nr), .ref (a 30), .ref (a 31), .int (nI nf), .ref (a 32), .ref (a 33), .int bw, .int bd, .int (nI nt), .ref (a 34), .ref (a 35), .ref (a 36), .ref (a 37)]) := by rw [hw94]; exact h83
  have h96 : w93 23 = .inl (k.2.2, 12, .inl (upd rd n (b2i P))) := by rw [hw94]; exact h84
  have h97 : w93 24 = .inl (k.1, 12, .inl (upd ma n x)) := by rw [hw94]; exact h85
  have h98 : w93 25 = .inl (k.1, 12, .inl (upd mb n y)) := by rw [hw94]; exact h86
  have h99 : w93 26 = .inl (k.1, 12, .inl (upd mc n z)) := by rw [hw94]; exact h87
  have h100 : w93 27 = .inl (k.1, 72, .inl (upd (upd (upd (upd co ((6 * n) + 0) 1) ((6 * n) + 1) 1) ((6 * n) + 2) 1) ((6 * n) + 3) 1)) := by rw [hw94]; rfl
  have h101 : w93 28 = .inl (k.1, 12, .inl jn) := by rw [hw94]; exact h89
  have h102 : w93 29 = .inl (k.1, 12, .inl (upd ro n (-1))) := by rw [hw94]; exact h90
  have hfr103 : ∀ z, z < 22 ∨ 29 < z → w93 z = w z := fun z hz => by rw [hw94]; exact (va_up_ne _ _ (by omega)).trans (hfr91 z hz)
  refine lv_iinc (v := 4) (lv' := [(5, .int 4), (0, .ref (a 22)), (1, .int (b2i P)), (2, .int x), (3, .int y), (4, .int z)]) hx hb dD_add_77 hl (k := 0) rfl (by decide) (by decide) rfl (fun ls hl => ?_)
  refine lv_goto (tgt := 54) hx hb dD_add_80 (by decide) ?_
  refine lv_iload hx hb dD_add_54 (lv_at hl 0 rfl) ?_
  refine lv_bipush (v := 6) hx hb dD_add_56 (by decide) ?_
  refine lv_icmp_ge (tgt := 83) hx hb dD_add_58 (by decide) (fun h9 => absurd h9 (by decide)) (fun _ => ?_)
  refine lv_aload_n hx hb dD_add_61 rfl (lv_at hl 1 rfl) ?_
  refine g_get hx hb hts inD hown hK hG 22 (by decide) h95 rfl 6 (by decide) lkD_23 rfl dD_add_62 ?_
  refine lv_bipush (v := 6) hx hb dD_add_65 (by decide) ?_
  refine lv_aload_n hx hb dD_add_67 rfl (lv_at hl 1 rfl) ?_
  refine g_get hx hb hts inD hown hK hG 22 (by decide) h95 rfl 1 (by decide) lkD_70 rfl dD_add_68 ?_
  refine ln_imul (x := 6) (y := n) hx hb dD_add_71 ?_
  refine lv_iload hx hb dD_add_72 (lv_at hl 0 rfl) ?_
  refine ln_iadd (x := 6 * n) (y := 4) hx hb dD_add_74 ?_
  refine lv_iconst (v := 1) hx hb dD_add_75 (by decide) ?_
  refine g_iast hx hb hK hA hG hS 27 (by decide) h100 (j := (6 * n) + 4) (by omega) (by decide) dD_add_76 (fun H locs hG hS => ?_)
  obtain ⟨w105, hw106⟩ : ∃ zz9, zz9 = va_up w93 27 (.inl (k.1, 72, .inl (upd (upd (upd (upd (upd co ((6 * n) + 0) 1) ((6 * n) + 1) 1) ((6 * n) + 2) 1) ((6 * n) + 3) 1) ((6 * n) + 4) 1))) := ⟨_, rfl⟩
  replace hG : gW D a w105 H := by rw [hw106]; exact hG
  have h107 : w105 22 = .inr (5, [.int th, .int (nI n), .ref (a 23), .ref (a 24), .ref (a 25), .ref (a 26), .ref (a 27), .ref (a 28), .ref (a 29), .int (nI nr), .ref (a 30), .ref (a 31), .int (nI nf), .ref (a 32), .ref (a 33), .int bw, .int bd, .int (nI nt), .ref (a 34), .ref (a 35), .ref (a 36), .ref (a 37)]) := by rw [hw106]; exact h95
  have h108 : w105 23 = .inl (k.2.2, 12, .inl (upd rd n (b2i P))) := by rw [hw106]; exact h96
  have h109 : w105 24 = .inl (k.1, 12, .inl (upd ma n x)) := by rw [hw106]; exact h97
  have h110 : w105 25 = .inl (k.1, 12, .inl (upd mb n y)) := by rw [hw106]; exact h98
  have h111 : w105 26 = .inl (k.1, 12, .inl (upd mc n z)) := by rw [hw106]; exact h99
  have h112 : w105 27 = .inl (k.1, 72, .inl (upd (upd (upd (upd (upd co ((6 * n) + 0) 1) ((6 * n) + 1) 1) ((6 * n) + 2) 1) ((6 * n) + 3) 1) ((6 * n) + 4) 1)) := by rw [hw106]; rfl
  have h113 : w105 28 = .inl (k.1, 12, .inl jn) := by rw [hw106]; exact h101
  have h114 : w105 29 = .inl (k.1, 12, .inl (upd ro n (-1))) := by rw [hw106]; exact h102
  have hfr115 : ∀ z, z < 22 ∨ 29 < z → w105 z = w z := fun z hz => by rw [hw106]; exact (va_up_ne _ _ (by omega)).trans (hfr103 z hz)
  refine lv_iinc (v := 5) (lv' := [(5, .int 5), (0, .ref (a 22)), (1, .int (b2i P)), (2, .int x), (3, .int y), (4, .int z)]) hx hb dD_add_77 hl (k := 0) rfl (by decide) (by decide) rfl (fun ls hl => ?_)
  refine lv_goto (tgt := 54) hx hb dD_add_80 (by decide) ?_
  refine lv_iload hx hb dD_add_54 (lv_at hl 0 rfl) ?_
  refine lv_bipush (v := 6) hx hb dD_add_56 (by decide) ?_
  refine lv_icmp_ge (tgt := 83) hx hb dD_add_58 (by decide) (fun h9 => absurd h9 (by decide)) (fun _ => ?_)
  refine lv_aload_n hx hb dD_add_61 rfl (lv_at hl 1 rfl) ?_
  refine g_get hx hb hts inD hown hK hG 22 (by decide) h107 rfl 6 (by decide) lkD_23 rfl dD_add_62 ?_
  refine lv_bipush (v := 6) hx hb dD_add_65 (by decide) ?_
  refine lv_aload_n hx hb dD_add_67 rfl (lv_at hl 1 rfl) ?_
  refine g_get hx hb hts inD hown hK hG 22 (by decide) h107 rfl 1 (by decide) lkD_70 rfl dD_add_68 ?_
  refine ln_imul (x := 6) (y := n) hx hb dD_add_71 ?_
  refine lv_iload hx hb dD_add_72 (lv_at hl 0 rfl) ?_
  refine ln_iadd (x := 6 * n) (y := 5) hx hb dD_add_74 ?_
  refine lv_iconst (v := 1) hx hb dD_add_75 (by decide) ?_
  refine g_iast hx hb hK hA hG hS 27 (by decide) h112 (j := (6 * n) + 5) (by omega) (by decide) dD_add_76 (fun H locs hG hS => ?_)
  obtain ⟨w117, hw118⟩ : ∃ zz9, zz9 = va_up w105 27 (.inl (k.1, 72, .inl (upd (upd (upd (upd (upd (upd co ((6 * n) + 0) 1) ((6 * n) + 1) 1) ((6 * n) + 2) 1) ((6 * n) + 3) 1) ((6 * n) + 4) 1) ((6 * n) + 5) 1))) := ⟨_, rfl⟩
  replace hG : gW D a w117 H := by rw [hw118]; exact hG
  have h119 : w117 22 = .inr (5, [.int th, .int (nI n), .ref (a 23), .ref (a 24), .ref (a 25), .ref (a 26), .ref (a 27), .ref (a 28), .ref (a 29), .int (nI nr), .ref (a 30), .ref (a 31), .int (nI nf), .ref (a 32), .ref (a 33), .int bw, .int bd, .int (nI nt), .ref (a 34), .ref (a 35), .ref (a 36), .ref (a 37)]) := by rw [hw118]; exact h107
  have h120 : w117 23 = .inl (k.2.2, 12, .inl (upd rd n (b2i P))) := by rw [hw118]; exact h108
  have h121 : w117 24 = .inl (k.1, 12, .inl (upd ma n x)) := by rw [hw118]; exact h109
  have h122 : w117 25 = .inl (k.1, 12, .inl (upd mb n y)) := by rw [hw118]; exact h110
  have h123 : w117 26 = .inl (k.1, 12, .inl (upd mc n z)) := by rw [hw118]; exact h111
  have h124 : w117 27 = .inl (k.1, 72, .inl (upd (upd (upd (upd (upd (upd co ((6 * n) + 0) 1) ((6 * n) + 1) 1) ((6 * n) + 2) 1) ((6 * n) + 3) 1) ((6 * n) + 4) 1) ((6 * n) + 5) 1)) := by rw [hw118]; rfl
  have h125 : w117 28 = .inl (k.1, 12, .inl jn) := by rw [hw118]; exact h113
  have h126 : w117 29 = .inl (k.1, 12, .inl (upd ro n (-1))) := by rw [hw118]; exact h114
  have hfr127 : ∀ z, z < 22 ∨ 29 < z → w117 z = w z := fun z hz => by rw [hw118]; exact (va_up_ne _ _ (by omega)).trans (hfr115 z hz)
  refine lv_iinc (v := 6) (lv' := [(5, .int 6), (0, .ref (a 22)), (1, .int (b2i P)), (2, .int x), (3, .int y), (4, .int z)]) hx hb dD_add_77 hl (k := 0) rfl (by decide) (by decide) rfl (fun ls hl => ?_)
  refine lv_goto (tgt := 54) hx hb dD_add_80 (by decide) ?_
  refine lv_iload hx hb dD_add_54 (lv_at hl 0 rfl) ?_
  refine lv_bipush (v := 6) hx hb dD_add_56 (by decide) ?_
  refine lv_icmp_ge (tgt := 83) hx hb dD_add_58 (by decide) (fun _ => ?_) (fun h9 => absurd h9 (by decide))
  refine lv_aload_n hx hb dD_add_83 rfl (lv_at hl 1 rfl) ?_
  refine lv_dup hx hb dD_add_84 rfl ?_
  refine g_get hx hb hts inD hown hK hG 22 (by decide) h119 rfl 1 (by decide) lkD_70 rfl dD_add_85 ?_
  refine lv_iconst (v := 1) hx hb dD_add_88 (by decide) ?_
  refine ln_iadd (x := n) (y := 1) hx hb dD_add_89 ?_
  refine g_put hx hb hts inD tyD tokD nokD hown hK hA hG hS 22 (by decide) h119 rfl 1 (by decide) lkD_70 rfl (ty := .int) (by decide +kernel) rfl rfl (Nat.le_of_ble_eq_true rfl) dD_add_90 (fun H locs hG hS => ?_)
  obtain ⟨w129, hw130⟩ : ∃ zz9, zz9 = va_up w117 22 (.inr (5, [.int th, .int (nI (n + 1)), .ref (a 23), .ref (a 24), .ref (a 25), .ref (a 26), .ref (a 27), .ref (a 28), .ref (a 29), .int (nI nr), .ref (a 30), .ref (a 31), .int (nI nf), .ref (a 32), .ref (a 33), .int bw, .int bd, .int (nI nt), .ref (a 34), .ref (a 35), .ref (a 36), .ref (a 37)])) := ⟨_, rfl⟩
  replace hG : gW D a w129 H := by rw [hw130]; exact hG
  have h131 : w129 22 = .inr (5, [.int th, .int (nI (n + 1)), .ref (a 23), .ref (a 24), .ref (a 25), .ref (a 26), .ref (a 27), .ref (a 28), .ref (a 29), .int (nI nr), .ref (a 30), .ref (a 31), .int (nI nf), .ref (a 32), .ref (a 33), .int bw, .int bd, .int (nI nt), .ref (a 34), .ref (a 35), .ref (a 36), .ref (a 37)]) := by rw [hw130]; rfl
  have h132 : w129 23 = .inl (k.2.2, 12, .inl (upd rd n (b2i P))) := by rw [hw130]; exact h120
  have h133 : w129 24 = .inl (k.1, 12, .inl (upd ma n x)) := by rw [hw130]; exact h121
  have h134 : w129 25 = .inl (k.1, 12, .inl (upd mb n y)) := by rw [hw130]; exact h122
  have h135 : w129 26 = .inl (k.1, 12, .inl (upd mc n z)) := by rw [hw130]; exact h123
  have h136 : w129 27 = .inl (k.1, 72, .inl (upd (upd (upd (upd (upd (upd co ((6 * n) + 0) 1) ((6 * n) + 1) 1) ((6 * n) + 2) 1) ((6 * n) + 3) 1) ((6 * n) + 4) 1) ((6 * n) + 5) 1)) := by rw [hw130]; exact h124
  have h137 : w129 28 = .inl (k.1, 12, .inl jn) := by rw [hw130]; exact h125
  have h138 : w129 29 = .inl (k.1, 12, .inl (upd ro n (-1))) := by rw [hw130]; exact h126
  have hfr139 : ∀ z, z < 22 ∨ 29 < z → w129 z = w z := fun z hz => by rw [hw130]; exact (va_up_ne _ _ (by omega)).trans (hfr127 z hz)
  refine lv_aload_n hx hb dD_add_93 rfl (lv_at hl 1 rfl) ?_
  refine g_get hx hb hts inD hown hK hG 22 (by decide) h131 rfl 1 (by decide) lkD_70 rfl dD_add_94 ?_
  refine lv_iconst (v := 1) hx hb dD_add_97 (by decide) ?_
  refine ln_isub (x := n + 1) (y := 1) hx hb dD_add_98 (by omega) ?_
  exact g_iret hQ hx hb hr hlk hG hK hS (by decide) (by decide) ⟨by first | rfl | omega | (simp_all; done) | grind, h131, ⟨h132, h133, h134, h135, h136, h137, h138⟩, hfr139⟩ dD_add_99

abbrev rmD_upOf : Room := { frames := 0, cells := 0, slots := 0, locals := 0 }
set_option maxRecDepth 100000 in
set_option maxHeartbeats 4000000 in
theorem kD_upOf {l : Launch} {D : va_G} {k : ClassId × ClassId × ClassId} {a : Nat → Nat} {B0 : Nat} {w : Nat → va_E} (hA : gA B0 a) {th : Int32} {n : Nat} {nr : Nat} {nf : Nat} {bw : Int32} {bd : Int32} {nt : Nat} {rd : Nat → Int32} {ma : Nat → Int32} {mb : Nat → Int32} {mc : Nat → Int32} {co : Nat → Int32} {jn : Nat → Int32} {ro : Nat → Int32} (hsD : sD k a w th n nr nf bw bd nt) (hsDP : sDP k a w rd ma mb mc co jn ro) (j : Nat) (hj : j < 12) : Met l yD_upOf (tbw yD_upOf cD_upOf 2 (some .long)) rmD_upOf (gPc D k a B0 w [.ref (a 22), .int (nI j)]) (va_Ql (roP (mUp rd ma mb mc j) w) (gB D k a) (gF B0)) 0 0 (gF B0) := by
  have hsD22 := hsD
  obtain ⟨hsDP23, hsDP24, hsDP25, hsDP26, hsDP27, hsDP28, hsDP29⟩ := hsDP
  refine g_ofW (by decide) rfl (fun p e s m args below meth c Q hQ hx hb hr hlk hml hown hts hB hG hK hS ls hl => ?_)
  have hl : lv_has ls 2 [(0, .ref (a 22)), (1, .int (nI j))] := hl
  have hown : s.vm.findClass RD = some m.cls := hown
  refine lv_aload_n hx hb dD_upOf_0 rfl (lv_at hl 0 rfl) ?_
  refine g_get hx hb hts inD hown hK hG 22 (by decide) hsD22 rfl 2 (by decide) lkD_7 rfl dD_upOf_1 ?_
  refine lv_iload_n hx hb dD_upOf_4 rfl (lv_at hl 1 rfl) ?_
  refine g_zald hx hb hK hG 23 (by decide) hsDP23 (j := j) (by omega) (by decide) dD_upOf_5 ?_
  refine lv_if_eq (tgt := 27) hx hb dD_upOf_6 (by decide) (fun c1 => ?_) (fun c1 => ?_)
  · refine lv_aload_n hx hb dD_upOf_27 rfl (lv_at hl 0 rfl) ?_
    refine g_get hx hb hts inD hown hK hG 22 (by decide) hsD22 rfl 3 (by decide) lkD_13 rfl dD_upOf_28 ?_
    refine lv_iload_n hx hb dD_upOf_31 rfl (lv_at hl 1 rfl) ?_
    refine g_iald hx hb hK hG 24 (by decide) hsDP24 (j := j) (by omega) (by decide) dD_upOf_32 ?_
    refine lv_i2l hx hb dD_upOf_33 rfl ?_
    refine lv_aload_n hx hb dD_upOf_34 rfl (lv_at hl 0 rfl) ?_
    refine g_get hx hb hts inD hown hK hG 22 (by decide) hsD22 rfl 4 (by decide) lkD_17 rfl dD_upOf_35 ?_
    refine lv_iload_n hx hb dD_upOf_38 rfl (lv_at hl 1 rfl) ?_
    refine g_iald hx hb hK hG 25 (by decide) hsDP25 (j := j) (by omega) (by decide) dD_upOf_39 ?_
    refine lv_i2l hx hb dD_upOf_40 rfl ?_
    refine lv_lmul hx hb dD_upOf_41 ?_
    refine lv_aload_n hx hb dD_upOf_42 rfl (lv_at hl 0 rfl) ?_
    refine g_get hx hb hts inD hown hK hG 22 (by decide) hsD22 rfl 5 (by decide) lkD_20 rfl dD_upOf_43 ?_
    refine lv_iload_n hx hb dD_upOf_46 rfl (lv_at hl 1 rfl) ?_
    refine g_iald hx hb hK hG 26 (by decide) hsDP26 (j := j) (by omega) (by decide) dD_upOf_47 ?_
    refine lv_i2l hx hb dD_upOf_48 rfl ?_
    refine lv_lmul hx hb dD_upOf_49 ?_
    exact g_lret hQ hx hb hr hlk hG hK hS (by decide) (by decide) ⟨by unfold mUp; first | rw [if_pos (by assumption)] | rw [if_neg (by assumption)], rfl⟩ dD_upOf_50
  · refine lv_aload_n hx hb dD_upOf_9 rfl (lv_at hl 0 rfl) ?_
    refine g_get hx hb hts inD hown hK hG 22 (by decide) hsD22 rfl 3 (by decide) lkD_13 rfl dD_upOf_10 ?_
    refine lv_iload_n hx hb dD_upOf_13 rfl (lv_at hl 1 rfl) ?_
    refine g_iald hx hb hK hG 24 (by decide) hsDP24 (j := j) (by omega) (by decide) dD_upOf_14 ?_
    refine lv_i2l hx hb dD_upOf_15 rfl ?_
    refine lv_aload_n hx hb dD_upOf_16 rfl (lv_at hl 0 rfl) ?_
    refine g_get hx hb hts inD hown hK hG 22 (by decide) hsD22 rfl 4 (by decide) lkD_17 rfl dD_upOf_17 ?_
    refine lv_iload_n hx hb dD_upOf_20 rfl (lv_at hl 1 rfl) ?_
    refine g_iald hx hb hK hG 25 (by decide) hsDP25 (j := j) (by omega) (by decide) dD_upOf_21 ?_
    refine lv_i2l hx hb dD_upOf_22 rfl ?_
    refine lv_lmul hx hb dD_upOf_23 ?_
    refine lv_goto (tgt := 50) hx hb dD_upOf_24 (by decide) ?_
    exact g_lret hQ hx hb hr hlk hG hK hS (by decide) (by decide) ⟨by unfold mUp; first | rw [if_pos (by assumption)] | rw [if_neg (by assumption)], rfl⟩ dD_upOf_50

abbrev rmD_faces : Room := { frames := 0, cells := 0, slots := 0, locals := 0 }
set_option maxRecDepth 100000 in
set_option maxHeartbeats 4000000 in
theorem kD_faces {l : Launch} {D : va_G} {k : ClassId × ClassId × ClassId} {a : Nat → Nat} {B0 : Nat} {w : Nat → va_E} (hA : gA B0 a) {th : Int32} {n : Nat} {nr : Nat} {nf : Nat} {bw : Int32} {bd : Int32} {nt : Nat} {rd : Nat → Int32} {ma : Nat → Int32} {mb : Nat → Int32} {mc : Nat → Int32} {co : Nat → Int32} {jn : Nat → Int32} {ro : Nat → Int32} (hsD : sD k a w th n nr nf bw bd nt) (hsDP : sDP k a w rd ma mb mc co jn ro) (j : Nat) (f : Nat) (hj : j < 12) (hf : f < 5) : Met l yD_faces (tbw yD_faces cD_faces 3 (some .int)) rmD_faces (gPc D k a B0 w [.ref (a 22), .int (nI j), .int (nI f)]) (va_Qi (roP (mFc co j f) w) (gB D k a) (gF B0)) 0 0 (gF B0) := by
  have hsD22 := hsD
  obtain ⟨hsDP23, hsDP24, hsDP25, hsDP26, hsDP27, hsDP28, hsDP29⟩ := hsDP
  refine g_ofW (by decide) rfl (fun p e s m args below meth c Q hQ hx hb hr hlk hml hown hts hB hG hK hS ls hl => ?_)
  have hl : lv_has ls 3 [(0, .ref (a 22)), (1, .int (nI j)), (2, .int (nI f))] := hl
  have hown : s.vm.findClass RD = some m.cls := hown
  refine lv_aload_n hx hb dD_faces_0 rfl (lv_at hl 0 rfl) ?_
  refine g_get hx hb hts inD hown hK hG 22 (by decide) hsD22 rfl 6 (by decide) lkD_23 rfl dD_faces_1 ?_
  refine lv_bipush (v := 6) hx hb dD_faces_4 (by decide) ?_
  refine lv_iload_n hx hb dD_faces_6 rfl (lv_at hl 1 rfl) ?_
  refine ln_imul (x := 6) (y := j) hx hb dD_faces_7 ?_
  refine lv_iload_n hx hb dD_faces_8 rfl (lv_at hl 2 rfl) ?_
  refine ln_iadd (x := 6 * j) (y := f) hx hb dD_faces_9 ?_
  refine g_iald hx hb hK hG 27 (by decide) hsDP27 (j := (6 * j) + f) (by omega) (by decide) dD_faces_10 ?_
  refine lv_aload_n hx hb dD_faces_11 rfl (lv_at hl 0 rfl) ?_
  refine g_get hx hb hts inD hown hK hG 22 (by decide) hsD22 rfl 6 (by decide) lkD_23 rfl dD_faces_12 ?_
  refine lv_bipush (v := 6) hx hb dD_faces_15 (by decide) ?_
  refine lv_iload_n hx hb dD_faces_17 rfl (lv_at hl 1 rfl) ?_
  refine ln_imul (x := 6) (y := j) hx hb dD_faces_18 ?_
  refine lv_iload_n hx hb dD_faces_19 rfl (lv_at hl 2 rfl) ?_
  refine ln_iadd (x := 6 * j) (y := f) hx hb dD_faces_20 ?_
  refine lv_iconst (v := 1) hx hb dD_faces_21 (by decide) ?_
  refine ln_iadd (x := (6 * j) + f) (y := 1) hx hb dD_faces_22 ?_
  refine g_iald hx hb hK hG 27 (by decide) hsDP27 (j := ((6 * j) + f) + 1) (by omega) (by decide) dD_faces_23 ?_
  refine lv_iadd hx hb dD_faces_24 ?_
  exact g_iret hQ hx hb hr hlk hG hK hS (by decide) (by decide) ⟨by rfl, rfl⟩ dD_faces_25

abbrev rmD_lowOf : Room := { frames := 1, cells := 0, slots := 0, locals := 22 }
set_option maxRecDepth 100000 in
set_option maxHeartbeats 4000000 in
theorem kD_lowOf {l : Launch} {D : va_G} {k : ClassId × ClassId × ClassId} {a : Nat → Nat} {B0 : Nat} {w : Nat → va_E} (hA : gA B0 a) {th : Int32} {n : Nat} {nr : Nat} {nf : Nat} {bw : Int32} {bd : Int32} {nt : Nat} {rd : Nat → Int32} {ma : Nat → Int32} {mb : Nat → Int32} {mc : Nat → Int32} {co : Nat → Int32} {jn : Nat → Int32} {ro : Nat → Int32} (hsD : sD k a w th n nr nf bw bd nt) (hsDP : sDP k a w rd ma mb mc co jn ro) (j : Nat) (hj : j < 12) : Met l yD_lowOf (tbw yD_lowOf cD_lowOf 2 (some .long)) rmD_lowOf (gPc D k a B0 w [.ref (a 22), .int (nI j)]) (va_Ql (roP (mLo rd ma mb mc co j) w) (gB D k a) (gF B0)) 0 0 (gF B0) := by
  have hsD22 := hsD
  obtain ⟨hsDP23, hsDP24, hsDP25, hsDP26, hsDP27, hsDP28, hsDP29⟩ := hsDP
  refine g_ofW (by decide) rfl (fun p e s m args below meth c Q hQ hx hb hr hlk hml hown hts hB hG hK hS ls hl => ?_)
  have hl : lv_has ls 2 [(0, .ref (a 22)), (1, .int (nI j))] := hl
  have hown : s.vm.findClass RD = some m.cls := hown
  refine lv_aload_n hx hb dD_lowOf_0 rfl (lv_at hl 0 rfl) ?_
  refine g_get hx hb hts inD hown hK hG 22 (by decide) hsD22 rfl 2 (by decide) lkD_7 rfl dD_lowOf_1 ?_
  refine lv_iload_n hx hb dD_lowOf_4 rfl (lv_at hl 1 rfl) ?_
  refine g_zald hx hb hK hG 23 (by decide) hsDP23 (j := j) (by omega) (by decide) dD_lowOf_5 ?_
  refine lv_if_eq (tgt := 48) hx hb dD_lowOf_6 (by decide) (fun c1 => ?_) (fun c1 => ?_)
  · refine lv_aload_n hx hb dD_lowOf_48 rfl (lv_at hl 0 rfl) ?_
    refine lv_iload_n hx hb dD_lowOf_49 rfl (lv_at hl 1 rfl) ?_
    refine lv_iconst (v := 0) hx hb dD_lowOf_50 (by decide) ?_
    refine g_ViR (i := 22) (As := [.int (nI j), .int 0]) (rest := []) (kD_faces hA hsD22 ⟨hsDP23, hsDP24, hsDP25, hsDP26, hsDP27, hsDP28, hsDP29⟩ j 0 (by omega) (by omega)) calD_faces cvD_faces mlD_90 hx hb hml hown hts hB hG hK hS (by decide) hsD22 rfl ⟨by decide, by decide⟩ rfl hl.1 rfl (Nat.le_of_ble_eq_true rfl) dD_lowOf_51 ⟨by decide, by decide⟩ (fun H locs hG hS => ?_)
    refine lv_i2l hx hb dD_lowOf_54 rfl ?_
    refine lv_aload_n hx hb dD_lowOf_55 rfl (lv_at hl 0 rfl) ?_
    refine g_get hx hb hts inD hown hK hG 22 (by decide) hsD22 rfl 4 (by decide) lkD_17 rfl dD_lowOf_56 ?_
    refine lv_iload_n hx hb dD_lowOf_59 rfl (lv_at hl 1 rfl) ?_
    refine g_iald hx hb hK hG 25 (by decide) hsDP25 (j := j) (by omega) (by decide) dD_lowOf_60 ?_
    refine lv_i2l hx hb dD_lowOf_61 rfl ?_
    refine lv_lmul hx hb dD_lowOf_62 ?_
    refine lv_aload_n hx hb dD_lowOf_63 rfl (lv_at hl 0 rfl) ?_
    refine g_get hx hb hts inD hown hK hG 22 (by decide) hsD22 rfl 5 (by decide) lkD_20 rfl dD_lowOf_64 ?_
    refine lv_iload_n hx hb dD_lowOf_67 rfl (lv_at hl 1 rfl) ?_
    refine g_iald hx hb hK hG 26 (by decide) hsDP26 (j := j) (by omega) (by decide) dD_lowOf_68 ?_
    refine lv_i2l hx hb dD_lowOf_69 rfl ?_
    refine lv_lmul hx hb dD_lowOf_70 ?_
    refine lv_aload_n hx hb dD_lowOf_71 rfl (lv_at hl 0 rfl) ?_
    refine lv_iload_n hx hb dD_lowOf_72 rfl (lv_at hl 1 rfl) ?_
    refine lv_iconst (v := 2) hx hb dD_lowOf_73 (by decide) ?_
    refine g_ViR (i := 22) (As := [.int (nI j), .int 2]) (rest := [.long ((((mFc co j 0).toInt64) * ((mb j).toInt64)) * ((mc j).toInt64))]) (kD_faces hA hsD22 ⟨hsDP23, hsDP24, hsDP25, hsDP26, hsDP27, hsDP28, hsDP29⟩ j 2 (by omega) (by omega)) calD_faces cvD_faces mlD_90 hx hb hml hown hts hB hG hK hS (by decide) hsD22 rfl ⟨by decide, by decide⟩ rfl hl.1 rfl (Nat.le_of_ble_eq_true rfl) dD_lowOf_74 ⟨by decide, by decide⟩ (fun H locs hG hS => ?_)
    refine lv_i2l hx hb dD_lowOf_77 rfl ?_
    refine lv_aload_n hx hb dD_lowOf_78 rfl (lv_at hl 0 rfl) ?_
    refine g_get hx hb hts inD hown hK hG 22 (by decide) hsD22 rfl 3 (by decide) lkD_13 rfl dD_lowOf_79 ?_
    refine lv_iload_n hx hb dD_lowOf_82 rfl (lv_at hl 1 rfl) ?_
    refine g_iald hx hb hK hG 24 (by decide) hsDP24 (j := j) (by omega) (by decide) dD_lowOf_83 ?_
    refine lv_i2l hx hb dD_lowOf_84 rfl ?_
    refine lv_lmul hx hb dD_lowOf_85 ?_
    refine lv_aload_n hx hb dD_lowOf_86 rfl (lv_at hl 0 rfl) ?_
    refine g_get hx hb hts inD hown hK hG 22 (by decide) hsD22 rfl 5 (by decide) lkD_20 rfl dD_lowOf_87 ?_
    refine lv_iload_n hx hb dD_lowOf_90 rfl (lv_at hl 1 rfl) ?_
    refine g_iald hx hb hK hG 26 (by decide) hsDP26 (j := j) (by omega) (by decide) dD_lowOf_91 ?_
    refine lv_i2l hx hb dD_lowOf_92 rfl ?_
    refine lv_lmul hx hb dD_lowOf_93 ?_
    refine lv_ladd hx hb dD_lowOf_94 ?_
    refine lv_aload_n hx hb dD_lowOf_95 rfl (lv_at hl 0 rfl) ?_
    refine lv_iload_n hx hb dD_lowOf_96 rfl (lv_at hl 1 rfl) ?_
    refine lv_iconst (v := 4) hx hb dD_lowOf_97 (by decide) ?_
    refine g_ViR (i := 22) (As := [.int (nI j), .int 4]) (rest := [.long (((((mFc co j 0).toInt64) * ((mb j).toInt64)) * ((mc j).toInt64)) + ((((mFc co j 2).toInt64) * ((ma j).toInt64)) * ((mc j).toInt64)))]) (kD_faces hA hsD22 ⟨hsDP23, hsDP24, hsDP25, hsDP26, hsDP27, hsDP28, hsDP29⟩ j 4 (by omega) (by omega)) calD_faces cvD_faces mlD_90 hx hb hml hown hts hB hG hK hS (by decide) hsD22 rfl ⟨by decide, by decide⟩ rfl hl.1 rfl (Nat.le_of_ble_eq_true rfl) dD_lowOf_98 ⟨by decide, by decide⟩ (fun H locs hG hS => ?_)
    refine lv_i2l hx hb dD_lowOf_101 rfl ?_
    refine lv_aload_n hx hb dD_lowOf_102 rfl (lv_at hl 0 rfl) ?_
    refine g_get hx hb hts inD hown hK hG 22 (by decide) hsD22 rfl 3 (by decide) lkD_13 rfl dD_lowOf_103 ?_
    refine lv_iload_n hx hb dD_lowOf_106 rfl (lv_at hl 1 rfl) ?_
    refine g_iald hx hb hK hG 24 (by decide) hsDP24 (j := j) (by omega) (by decide) dD_lowOf_107 ?_
    refine lv_i2l hx hb dD_lowOf_108 rfl ?_
    refine lv_lmul hx hb dD_lowOf_109 ?_
    refine lv_aload_n hx hb dD_lowOf_110 rfl (lv_at hl 0 rfl) ?_
    refine g_get hx hb hts inD hown hK hG 22 (by decide) hsD22 rfl 4 (by decide) lkD_17 rfl dD_lowOf_111 ?_
    refine lv_iload_n hx hb dD_lowOf_114 rfl (lv_at hl 1 rfl) ?_
    refine g_iald hx hb hK hG 25 (by decide) hsDP25 (j := j) (by omega) (by decide) dD_lowOf_115 ?_
    refine lv_i2l hx hb dD_lowOf_116 rfl ?_
    refine lv_lmul hx hb dD_lowOf_117 ?_
    refine lv_ladd hx hb dD_lowOf_118 ?_
    exact g_lret hQ hx hb hr hlk hG hK hS (by decide) (by decide) ⟨by unfold mLo; first | rw [if_pos (by assumption)] | rw [if_neg (by assumption)], rfl⟩ dD_lowOf_119
  · refine lv_ldc2 (v := 4) hx hb hown (hts _ kcD_88) dD_lowOf_9 ?_
    refine lv_aload_n hx hb dD_lowOf_12 rfl (lv_at hl 0 rfl) ?_
    refine g_get hx hb hts inD hown hK hG 22 (by decide) hsD22 rfl 6 (by decide) lkD_23 rfl dD_lowOf_13 ?_
    refine lv_bipush (v := 6) hx hb dD_lowOf_16 (by decide) ?_
    refine lv_iload_n hx hb dD_lowOf_18 rfl (lv_at hl 1 rfl) ?_
    refine ln_imul (x := 6) (y := j) hx hb dD_lowOf_19 ?_
    refine g_iald hx hb hK hG 27 (by decide) hsDP27 (j := 6 * j) (by omega) (by decide) dD_lowOf_20 ?_
    refine lv_i2l hx hb dD_lowOf_21 rfl ?_
    refine lv_lmul hx hb dD_lowOf_22 ?_
    refine lv_aload_n hx hb dD_lowOf_23 rfl (lv_at hl 0 rfl) ?_
    refine g_get hx hb hts inD hown hK hG 22 (by decide) hsD22 rfl 4 (by decide) lkD_17 rfl dD_lowOf_24 ?_
    refine lv_iload_n hx hb dD_lowOf_27 rfl (lv_at hl 1 rfl) ?_
    refine g_iald hx hb hK hG 25 (by decide) hsDP25 (j := j) (by omega) (by decide) dD_lowOf_28 ?_
    refine lv_i2l hx hb dD_lowOf_29 rfl ?_
    refine lv_lmul hx hb dD_lowOf_30 ?_
    refine lv_aload_n hx hb dD_lowOf_31 rfl (lv_at hl 0 rfl) ?_
    refine lv_iload_n hx hb dD_lowOf_32 rfl (lv_at hl 1 rfl) ?_
    refine lv_iconst (v := 1) hx hb dD_lowOf_33 (by decide) ?_
    refine g_ViR (i := 22) (As := [.int (nI j), .int 1]) (rest := [.long ((4 * ((co (6 * j)).toInt64)) * ((mb j).toInt64))]) (kD_faces hA hsD22 ⟨hsDP23, hsDP24, hsDP25, hsDP26, hsDP27, hsDP28, hsDP29⟩ j 1 (by omega) (by omega)) calD_faces cvD_faces mlD_90 hx hb hml hown hts hB hG hK hS (by decide) hsD22 rfl ⟨by decide, by decide⟩ rfl hl.1 rfl (Nat.le_of_ble_eq_true rfl) dD_lowOf_34 ⟨by decide, by decide⟩ (fun H locs hG hS => ?_)
    refine lv_i2l hx hb dD_lowOf_37 rfl ?_
    refine lv_aload_n hx hb dD_lowOf_38 rfl (lv_at hl 0 rfl) ?_
    refine g_get hx hb hts inD hown hK hG 22 (by decide) hsD22 rfl 3 (by decide) lkD_13 rfl dD_lowOf_39 ?_
    refine lv_iload_n hx hb dD_lowOf_42 rfl (lv_at hl 1 rfl) ?_
    refine g_iald hx hb hK hG 24 (by decide) hsDP24 (j := j) (by omega) (by decide) dD_lowOf_43 ?_
    refine lv_i2l hx hb dD_lowOf_44 rfl ?_
    refine lv_lmul hx hb dD_lowOf_45 ?_
    refine lv_ladd hx hb dD_lowOf_46 ?_
    exact g_lret hQ hx hb hr hlk hG hK hS (by decide) (by decide) ⟨by unfold mLo; first | rw [if_pos (by assumption)] | rw [if_neg (by assumption)], rfl⟩ dD_lowOf_47

abbrev rmD_compare : Room := { frames := 2, cells := 0, slots := 0, locals := 43 }
set_option maxRecDepth 100000 in
set_option maxHeartbeats 4000000 in
theorem kD_compare {l : Launch} {D : va_G} {k : ClassId × ClassId × ClassId} {a : Nat → Nat} {B0 : Nat} {w : Nat → va_E} (hA : gA B0 a) {th : Int32} {n : Nat} {nr : Nat} {nf : Nat} {bw : Int32} {bd : Int32} {nt : Nat} {rd : Nat → Int32} {ma : Nat → Int32} {mb : Nat → Int32} {mc : Nat → Int32} {co : Nat → Int32} {jn : Nat → Int32} {ro : Nat → Int32} (hsD : sD k a w th n nr nf bw bd nt) (hsDP : sDP k a w rd ma mb mc co jn ro) (i : Nat) (j : Nat) (hi : i < 12) (hj : j < 12) : Met l yD_compare (tbw yD_compare cD_compare 3 (some .long)) rmD_compare (gPc D k a B0 w [.ref (a 22), .int (nI i), .int (nI j)]) (va_Ql (roP (mCmp rd ma mb mc co i j) w) (gB D k a) (gF B0)) 0 0 (gF B0) := by
  have hsD22 := hsD
  obtain ⟨hsDP23, hsDP24, hsDP25, hsDP26, hsDP27, hsDP28, hsDP29⟩ := hsDP
  refine g_ofW (by decide) rfl (fun p e s m args below meth c Q hQ hx hb hr hlk hml hown hts hB hG hK hS ls hl => ?_)
  have hl : lv_has ls 3 [(0, .ref (a 22)), (1, .int (nI i)), (2, .int (nI j))] := hl
  have hown : s.vm.findClass RD = some m.cls := hown
  refine lv_aload_n hx hb dD_compare_0 rfl (lv_at hl 0 rfl) ?_
  refine lv_iload_n hx hb dD_compare_1 rfl (lv_at hl 1 rfl) ?_
  refine g_VlR (i := 22) (As := [.int (nI i)]) (rest := []) (kD_upOf hA hsD22 ⟨hsDP23, hsDP24, hsDP25, hsDP26, hsDP27, hsDP28, hsDP29⟩ i (by omega)) calD_upOf cvD_upOf mlD_98 hx hb hml hown hts hB hG hK hS (by decide) hsD22 rfl ⟨by decide, by decide⟩ rfl hl.1 rfl (Nat.le_of_ble_eq_true rfl) dD_compare_2 ⟨by decide, by decide⟩ (fun H locs hG hS => ?_)
  refine lv_aload_n hx hb dD_compare_5 rfl (lv_at hl 0 rfl) ?_
  refine lv_iload_n hx hb dD_compare_6 rfl (lv_at hl 2 rfl) ?_
  refine g_VlR (i := 22) (As := [.int (nI j)]) (rest := [.long (mUp rd ma mb mc i)]) (kD_lowOf hA hsD22 ⟨hsDP23, hsDP24, hsDP25, hsDP26, hsDP27, hsDP28, hsDP29⟩ j (by omega)) calD_lowOf cvD_lowOf mlD_94 hx hb hml hown hts hB hG hK hS (by decide) hsD22 rfl ⟨by decide, by decide⟩ rfl hl.1 rfl (Nat.le_of_ble_eq_true rfl) dD_compare_7 ⟨by decide, by decide⟩ (fun H locs hG hS => ?_)
  refine lv_lmul hx hb dD_compare_10 ?_
  refine lv_aload_n hx hb dD_compare_11 rfl (lv_at hl 0 rfl) ?_
  refine lv_iload_n hx hb dD_compare_12 rfl (lv_at hl 2 rfl) ?_
  refine g_VlR (i := 22) (As := [.int (nI j)]) (rest := [.long ((mUp rd ma mb mc i) * (mLo rd ma mb mc co j))]) (kD_upOf hA hsD22 ⟨hsDP23, hsDP24, hsDP25, hsDP26, hsDP27, hsDP28, hsDP29⟩ j (by omega)) calD_upOf cvD_upOf mlD_98 hx hb hml hown hts hB hG hK hS (by decide) hsD22 rfl ⟨by decide, by decide⟩ rfl hl.1 rfl (Nat.le_of_ble_eq_true rfl) dD_compare_13 ⟨by decide, by decide⟩ (fun H locs hG hS => ?_)
  refine lv_aload_n hx hb dD_compare_16 rfl (lv_at hl 0 rfl) ?_
  refine lv_iload_n hx hb dD_compare_17 rfl (lv_at hl 1 rfl) ?_
  refine g_VlR (i := 22) (As := [.int (nI i)]) (rest := [.long (mUp rd ma mb mc j), .long ((mUp rd ma mb mc i) * (mLo rd ma mb mc co j))]) (kD_lowOf hA hsD22 ⟨hsDP23, hsDP24, hsDP25, hsDP26, hsDP27, hsDP28, hsDP29⟩ i (by omega)) calD_lowOf cvD_lowOf mlD_94 hx hb hml hown hts hB hG hK hS (by decide) hsD22 rfl ⟨by decide, by decide⟩ rfl hl.1 rfl (Nat.le_of_ble_eq_true rfl) dD_compare_18 ⟨by decide, by decide⟩ (fun H locs hG hS => ?_)
  refine lv_lmul hx hb dD_compare_21 ?_
  refine lv_lsub hx hb dD_compare_22 ?_
  exact g_lret hQ hx hb hr hlk hG hK hS (by decide) (by decide) ⟨by rfl, rfl⟩ dD_compare_23

abbrev rmD_isTold : Room := { frames := 2, cells := 0, slots := 0, locals := 43 }
set_option maxRecDepth 100000 in
set_option maxHeartbeats 4000000 in
theorem kD_isTold {l : Launch} {D : va_G} {k : ClassId × ClassId × ClassId} {a : Nat → Nat} {B0 : Nat} {w : Nat → va_E} (hA : gA B0 a) {th : Int32} {n : Nat} {nr : Nat} {nf : Nat} {bw : Int32} {bd : Int32} {nt : Nat} {rd : Nat → Int32} {ma : Nat → Int32} {mb : Nat → Int32} {mc : Nat → Int32} {co : Nat → Int32} {jn : Nat → Int32} {ro : Nat → Int32} (hsD : sD k a w th n nr nf bw bd nt) (hsDP : sDP k a w rd ma mb mc co jn ro) (j : Nat) (hj : j < 12) : Met l yD_isTold (tbw yD_isTold cD_isTold 2 (some .boolean)) rmD_isTold (gPc D k a B0 w [.ref (a 22), .int (nI j)]) (va_Qi (roP (b2i (0 < mLo rd ma mb mc co j)) w) (gB D k a) (gF B0)) 0 0 (gF B0) := by
  have hsD22 := hsD
  obtain ⟨hsDP23, hsDP24, hsDP25, hsDP26, hsDP27, hsDP28, hsDP29⟩ := hsDP
  refine g_ofW (by decide) rfl (fun p e s m args below meth c Q hQ hx hb hr hlk hml hown hts hB hG hK hS ls hl => ?_)
  have hl : lv_has ls 2 [(0, .ref (a 22)), (1, .int (nI j))] := hl
  have hown : s.vm.findClass RD = some m.cls := hown
  refine lv_aload_n hx hb dD_isTold_0 rfl (lv_at hl 0 rfl) ?_
  refine lv_iload_n hx hb dD_isTold_1 rfl (lv_at hl 1 rfl) ?_
  refine g_VlR (i := 22) (As := [.int (nI j)]) (rest := []) (kD_lowOf hA hsD22 ⟨hsDP23, hsDP24, hsDP25, hsDP26, hsDP27, hsDP28, hsDP29⟩ j (by omega)) calD_lowOf cvD_lowOf mlD_94 hx hb hml hown hts hB hG hK hS (by decide) hsD22 rfl ⟨by decide, by decide⟩ rfl hl.1 rfl (Nat.le_of_ble_eq_true rfl) dD_isTold_2 ⟨by decide, by decide⟩ (fun H locs hG hS => ?_)
  refine lv_lconst (v := 0) hx hb dD_isTold_5 (by decide) ?_
  refine W.lcmp hx hb dD_isTold_6 ?_
  refine lc_if_le (tgt := 14) hx hb dD_isTold_7 (by decide) (fun c1 => ?_) (fun c1 => ?_)
  · refine lv_iconst (v := 0) hx hb dD_isTold_14 (by decide) ?_
    exact g_zret hQ hx hb hr hlk hG hK hS (by decide) (by decide) (by decide) ⟨(b2i_f (by first | assumption | exact Int64.not_lt.mpr (by assumption))).symm, rfl⟩ dD_isTold_15
  · refine lv_iconst (v := 1) hx hb dD_isTold_10 (by decide) ?_
    refine lv_goto (tgt := 15) hx hb dD_isTold_11 (by decide) ?_
    exact g_zret hQ hx hb hr hlk hG hK hS (by decide) (by decide) (by decide) ⟨(b2i_t (by first | assumption | exact Int64.not_lt.mpr (by assumption))).symm, rfl⟩ dD_isTold_15

abbrev rmD_rowFor : Room := { frames := 2, cells := 0, slots := 0, locals := 43 }
set_option maxRecDepth 100000 in
set_option maxHeartbeats 4000000 in
theorem kD_rowFor {l : Launch} {D : va_G} {k : ClassId × ClassId × ClassId} {a : Nat → Nat} {B0 : Nat} {w : Nat → va_E} (hA : gA B0 a) {th : Int32} {n : Nat} {nr : Nat} {nf : Nat} {bw : Int32} {bd : Int32} {nt : Nat} {rd : Nat → Int32} {ma : Nat → Int32} {mb : Nat → Int32} {mc : Nat → Int32} {co : Nat → Int32} {jn : Nat → Int32} {ro : Nat → Int32} {md : Nat → Int32} {mh : Nat → Int32} (hsD : sD k a w th n nr nf bw bd nt) (hsDP : sDP k a w rd ma mb mc co jn ro) (hsDR : sDR k a w md mh) (j : Nat) (hj : j < 12) (hn : nr ≤ 8) : Met l yD_rowFor (tbw yD_rowFor cD_rowFor 8 (some .int)) rmD_rowFor (gPc D k a B0 w [.ref (a 22), .int (nI j)]) (va_Qi (roP (rwF (mFitP rd ma mb mc co md mh j) nr (-1)) w) (gB D k a) (gF B0)) 0 0 (gF B0) := by
  have hsD22 := hsD
  obtain ⟨hsDP23, hsDP24, hsDP25, hsDP26, hsDP27, hsDP28, hsDP29⟩ := hsDP
  obtain ⟨hsDR30, hsDR31⟩ := hsDR
  refine g_ofW (by decide) rfl (fun p e s m args below meth c Q hQ hx hb hr hlk hml hown hts hB hG hK hS ls hl => ?_)
  have hl : lv_has ls 8 [(0, .ref (a 22)), (1, .int (nI j))] := hl
  have hown : s.vm.findClass RD = some m.cls := hown
  refine lv_iconst (v := (-1)) hx hb dD_rowFor_0 (by decide) ?_
  refine lv_istore_n (lv' := [(2, .int (-1)), (0, .ref (a 22)), (1, .int (nI j))]) hx hb dD_rowFor_1 rfl hl (by decide) rfl (fun ls hl => ?_)
  refine lv_aload_n hx hb dD_rowFor_2 rfl (lv_at hl 1 rfl) ?_
  refine g_get hx hb hts inD hown hK hG 22 (by decide) hsD22 rfl 9 (by decide) lkD_108 rfl dD_rowFor_3 ?_
  refine lv_iconst (v := 1) hx hb dD_rowFor_6 (by decide) ?_
  refine lv_isub hx hb dD_rowFor_7 ?_
  refine lv_istore_n (lv' := [(3, .int ((nI nr) - 1)), (2, .int (-1)), (0, .ref (a 22)), (1, .int (nI j))]) hx hb dD_rowFor_8 rfl hl (by decide) rfl (fun ls hl => ?_)
  have loop9 : ∀ (k9 : Nat) (f : Int32) (hk : k9 ≤ nr) (hres : rwF (mFitP rd ma mb mc co md mh j) k9 f = rwF (mFitP rd ma mb mc co md mh j) nr (-1)) (H : Heap) (locs : List Loc) (ls : Array Slot), gW D a w H → va_S (gF B0) s.heap H locs → lv_has ls 8 [(0, .ref (a 22)), (1, .int (nI j)), (2, .int f), (3, .int (nI k9 - 1))] → W p l e rmD_rowFor s m args below meth c H locs 0 0 Q (F0 m 9 ls []) := by
    intro k9
    induction k9 using Nat.strongRecOn with
    | _ k9 ih9 =>
      intro f hk hres H locs ls hG hS hl
      refine lv_iload_n hx hb dD_rowFor_9 rfl (lv_at hl 3 rfl) ?_
      refine lv_if_lt (tgt := 91) hx hb dD_rowFor_10 (by decide) (fun c1 => ?_) (fun c1 => ?_)
      · obtain rfl : k9 = 0 := by
          rcases Nat.eq_zero_or_pos k9 with q | q
          · exact q
          · exfalso
            obtain ⟨z9, rfl⟩ : ∃ z9, k9 = z9 + 1 := ⟨k9 - 1, by omega⟩
            rw [nI_pred] at c1
            exact absurd c1 (nI_pos (by omega))
        refine lv_iload_n hx hb dD_rowFor_91 rfl (lv_at hl 2 rfl) ?_
        exact g_iret hQ hx hb hr hlk hG hK hS (by decide) (by decide) ⟨by exact hres, rfl⟩ dD_rowFor_92
      · obtain ⟨k8, rfl⟩ : ∃ z9, k9 = z9 + 1 := ⟨k9 - 1, by
          rcases Nat.eq_zero_or_pos k9 with q | q
          · exfalso; rw [q] at c1; exact absurd (by decide) c1
          · omega⟩
        rw [nI_pred] at hl
        refine lv_aload_n hx hb dD_rowFor_13 rfl (lv_at hl 0 rfl) ?_
        refine g_get hx hb hts inD hown hK hG 22 (by decide) hsD22 rfl 10 (by decide) lkD_32 rfl dD_rowFor_14 ?_
        refine lv_iload_n hx hb dD_rowFor_17 rfl (lv_at hl 3 rfl) ?_
        refine g_iald hx hb hK hG 30 (by decide) hsDR30 (j := k8) (by omega) (by decide) dD_rowFor_18 ?_
        refine lv_i2l hx hb dD_rowFor_19 rfl ?_
        refine lv_aload_n hx hb dD_rowFor_20 rfl (lv_at hl 0 rfl) ?_
        refine g_get hx hb hts inD hown hK hG 22 (by decide) hsD22 rfl 11 (by decide) lkD_35 rfl dD_rowFor_21 ?_
        refine lv_iload_n hx hb dD_rowFor_24 rfl (lv_at hl 3 rfl) ?_
        refine g_iald hx hb hK hG 31 (by decide) hsDR31 (j := k8) (by omega) (by decide) dD_rowFor_25 ?_
        refine lv_i2l hx hb dD_rowFor_26 rfl ?_
        refine lv_lmul hx hb dD_rowFor_27 ?_
        refine lv_lstore (lv' := [(4, .long (((md k8).toInt64) * ((mh k8).toInt64))), (0, .ref (a 22)), (1, .int (nI j)), (2, .int f), (3, .int (nI k8))]) hx hb dD_rowFor_28 hl (by decide) rfl (fun ls hl => ?_)
        refine lv_ldc2 (v := 4) hx hb hown (hts _ kcD_88) dD_rowFor_30 ?_
        refine lv_aload_n hx hb dD_rowFor_33 rfl (lv_at hl 1 rfl) ?_
        refine g_get hx hb hts inD hown hK hG 22 (by decide) hsD22 rfl 11 (by decide) lkD_35 rfl dD_rowFor_34 ?_
        refine lv_iload_n hx hb dD_rowFor_37 rfl (lv_at hl 4 rfl) ?_
        refine g_iald hx hb hK hG 31 (by decide) hsDR31 (j := k8) (by omega) (by decide) dD_rowFor_38 ?_
        refine lv_i2l hx hb dD_rowFor_39 rfl ?_
        refine lv_lmul hx hb dD_rowFor_40 ?_
        refine lv_aload_n hx hb dD_rowFor_41 rfl (lv_at hl 1 rfl) ?_
        refine g_get hx hb hts inD hown hK hG 22 (by decide) hsD22 rfl 10 (by decide) lkD_32 rfl dD_rowFor_42 ?_
        refine lv_iload_n hx hb dD_rowFor_45 rfl (lv_at hl 4 rfl) ?_
        refine g_iald hx hb hK hG 30 (by decide) hsDR30 (j := k8) (by omega) (by decide) dD_rowFor_46 ?_
        refine lv_i2l hx hb dD_rowFor_47 rfl ?_
        refine lv_ladd hx hb dD_rowFor_48 ?_
        refine lv_lstore (lv' := [(6, .long ((4 * ((mh k8).toInt64)) + ((md k8).toInt64))), (4, .long (((md k8).toInt64) * ((mh k8).toInt64))), (0, .ref (a 22)), (1, .int (nI j)), (2, .int f), (3, .int (nI k8))]) hx hb dD_rowFor_49 hl (by decide) rfl (fun ls hl => ?_)
        refine lv_ldc2 (v := 5) hx hb hown (hts _ kcD_111) dD_rowFor_51 ?_
        refine lv_lload hx hb dD_rowFor_54 (lv_at hl 1 rfl) ?_
        refine lv_lmul hx hb dD_rowFor_56 ?_
        refine lv_aload_n hx hb dD_rowFor_57 rfl (lv_at hl 2 rfl) ?_
        refine lv_iload_n hx hb dD_rowFor_58 rfl (lv_at hl 3 rfl) ?_
        refine g_VlR (i := 22) (As := [.int (nI j)]) (rest := [.long (5 * (((md k8).toInt64) * ((mh k8).toInt64)))]) (kD_lowOf hA hsD22 ⟨hsDP23, hsDP24, hsDP25, hsDP26, hsDP27, hsDP28, hsDP29⟩ j (by omega)) calD_lowOf cvD_lowOf mlD_94 hx hb hml hown hts hB hG hK hS (by decide) hsD22 rfl ⟨by decide, by decide⟩ rfl hl.1 rfl (Nat.le_of_ble_eq_true rfl) dD_rowFor_59 ⟨by decide, by decide⟩ (fun H locs hG hS => ?_)
        refine lv_lmul hx hb dD_rowFor_62 ?_
        refine lv_ldc2 (v := 6) hx hb hown (hts _ kcD_113) dD_rowFor_63 ?_
        refine lv_aload_n hx hb dD_rowFor_66 rfl (lv_at hl 2 rfl) ?_
        refine lv_iload_n hx hb dD_rowFor_67 rfl (lv_at hl 3 rfl) ?_
        refine g_VlR (i := 22) (As := [.int (nI j)]) (rest := [.long 6, .long ((5 * (((md k8).toInt64) * ((mh k8).toInt64))) * (mLo rd ma mb mc co j))]) (kD_upOf hA hsD22 ⟨hsDP23, hsDP24, hsDP25, hsDP26, hsDP27, hsDP28, hsDP29⟩ j (by omega)) calD_upOf cvD_upOf mlD_98 hx hb hml hown hts hB hG hK hS (by decide) hsD22 rfl ⟨by decide, by decide⟩ rfl hl.1 rfl (Nat.le_of_ble_eq_true rfl) dD_rowFor_68 ⟨by decide, by decide⟩ (fun H locs hG hS => ?_)
        refine lv_lmul hx hb dD_rowFor_71 ?_
        refine lv_lload hx hb dD_rowFor_72 (lv_at hl 0 rfl) ?_
        refine lv_lmul hx hb dD_rowFor_74 ?_
        refine W.lcmp hx hb dD_rowFor_75 ?_
        refine lc_if_lt (tgt := 83) hx hb dD_rowFor_76 (by decide) (fun c2 => ?_) (fun c2 => ?_)
        · refine lv_iload_n hx hb dD_rowFor_83 rfl (lv_at hl 4 rfl) ?_
          refine lv_istore_n (lv' := [(2, .int f), (6, .long ((4 * ((mh k8).toInt64)) + ((md k8).toInt64))), (4, .long (((md k8).toInt64) * ((mh k8).toInt64))), (0, .ref (a 22)), (1, .int (nI j)), (3, .int (nI k8))]) hx hb dD_rowFor_84 rfl hl (by decide) rfl (fun ls hl => ?_)
          refine lv_iinc (v := (nI k8 - 1)) (lv' := [(3, .int (nI k8 - 1)), (2, .int f), (6, .long ((4 * ((mh k8).toInt64)) + ((md k8).toInt64))), (4, .long (((md k8).toInt64) * ((mh k8).toInt64))), (0, .ref (a 22)), (1, .int (nI j))]) hx hb dD_rowFor_85 hl (k := 5) rfl (iinc_m1 _) (by decide) rfl (fun ls hl => ?_)
          refine lv_goto (tgt := 9) hx hb dD_rowFor_88 (by decide) ?_
          exact ih9 k8 (by omega) f (by omega) (by first | exact (rwF_y (by assumption)).symm.trans hres | exact (rwF_n (Int64.not_le.mpr (by assumption))).symm.trans hres) _ _ _ hG hS (lv_sub hl [4, 5, 1, 0] rfl)
        · refine lv_iload_n hx hb dD_rowFor_79 rfl (lv_at hl 5 rfl) ?_
          refine lv_goto (tgt := 84) hx hb dD_rowFor_80 (by decide) ?_
          refine lv_istore_n (lv' := [(2, .int (nI k8)), (6, .long ((4 * ((mh k8).toInt64)) + ((md k8).toInt64))), (4, .long (((md k8).toInt64) * ((mh k8).toInt64))), (0, .ref (a 22)), (1, .int (nI j)), (3, .int (nI k8))]) hx hb dD_rowFor_84 rfl hl (by decide) rfl (fun ls hl => ?_)
          refine lv_iinc (v := (nI k8 - 1)) (lv' := [(3, .int (nI k8 - 1)), (2, .int (nI k8)), (6, .long ((4 * ((mh k8).toInt64)) + ((md k8).toInt64))), (4, .long (((md k8).toInt64) * ((mh k8).toInt64))), (0, .ref (a 22)), (1, .int (nI j))]) hx hb dD_rowFor_85 hl (k := 5) rfl (iinc_m1 _) (by decide) rfl (fun ls hl => ?_)
          refine lv_goto (tgt := 9) hx hb dD_rowFor_88 (by decide) ?_
          exact ih9 k8 (by omega) (nI k8) (by omega) (by first | exact (rwF_y (by assumption)).symm.trans hres | exact (rwF_n (Int64.not_le.mpr (by assumption))).symm.trans hres) _ _ _ hG hS (lv_sub hl [4, 5, 1, 0] rfl)
  exact loop9 nr (-1) (by omega) rfl _ _ _ hG hS (lv_sub hl [2, 3, 1, 0] rfl)

abbrev rmD_feederOf : Room := { frames := 3, cells := 0, slots := 0, locals := 65 }
set_option maxRecDepth 100000 in
set_option maxHeartbeats 4000000 in
theorem kD_feederOf {l : Launch} {D : va_G} {k : ClassId × ClassId × ClassId} {a : Nat → Nat} {B0 : Nat} {w : Nat → va_E} (hA : gA B0 a) {th : Int32} {n : Nat} {nr : Nat} {nf : Nat} {bw : Int32} {bd : Int32} {nt : Nat} {rd : Nat → Int32} {ma : Nat → Int32} {mb : Nat → Int32} {mc : Nat → Int32} {co : Nat → Int32} {jn : Nat → Int32} {ro : Nat → Int32} (hsD : sD k a w th n nr nf bw bd nt) (hsDP : sDP k a w rd ma mb mc co jn ro) (j : Nat) (hj : j < n) (hn : n ≤ 12) : Met l yD_feederOf (tbw yD_feederOf cD_feederOf 5 (some .int)) rmD_feederOf (gPc D k a B0 w [.ref (a 22), .int (nI j)]) (va_Qi (roP (mFeed rd ma mb mc co jn ro n j) w) (gB D k a) (gF B0)) 0 0 (gF B0) := by
  have hsD22 := hsD
  obtain ⟨hsDP23, hsDP24, hsDP25, hsDP26, hsDP27, hsDP28, hsDP29⟩ := hsDP
  refine g_ofW (by decide) rfl (fun p e s m args below meth c Q hQ hx hb hr hlk hml hown hts hB hG hK hS ls hl => ?_)
  have hl : lv_has ls 5 [(0, .ref (a 22)), (1, .int (nI j))] := hl
  have hown : s.vm.findClass RD = some m.cls := hown
  refine lv_aload_n hx hb dD_feederOf_0 rfl (lv_at hl 0 rfl) ?_
  refine lv_iload_n hx hb dD_feederOf_1 rfl (lv_at hl 1 rfl) ?_
  refine g_ViR (i := 22) (As := [.int (nI j)]) (rest := []) (kD_isTold hA hsD22 ⟨hsDP23, hsDP24, hsDP25, hsDP26, hsDP27, hsDP28, hsDP29⟩ j (by omega)) calD_isTold cvD_isTold mlD_101 hx hb hml hown hts hB hG hK hS (by decide) hsD22 rfl ⟨by decide, by decide⟩ rfl hl.1 rfl (Nat.le_of_ble_eq_true rfl) dD_feederOf_2 ⟨by decide, by decide⟩ (fun H locs hG hS => ?_)
  refine lb_if_ne (tgt := 11) hx hb dD_feederOf_5 (by decide) (fun c1 => ?_) (fun c1 => ?_)
  · refine lv_aload_n hx hb dD_feederOf_11 rfl (lv_at hl 0 rfl) ?_
    refine g_get hx hb hts inD hown hK hG 22 (by decide) hsD22 rfl 8 (by decide) lkD_29 rfl dD_feederOf_12 ?_
    refine lv_iload_n hx hb dD_feederOf_15 rfl (lv_at hl 1 rfl) ?_
    refine g_iald hx hb hK hG 29 (by decide) hsDP29 (j := j) (by omega) (by decide) dD_feederOf_16 ?_
    refine lv_if_lt (tgt := 30) hx hb dD_feederOf_17 (by decide) (fun c2 => ?_) (fun c2 => ?_)
    · refine lv_iconst (v := (-1)) hx hb dD_feederOf_30 (by decide) ?_
      refine lv_istore_n (lv' := [(2, .int (-1)), (0, .ref (a 22)), (1, .int (nI j))]) hx hb dD_feederOf_31 rfl hl (by decide) rfl (fun ls hl => ?_)
      refine lv_iconst (v := 0) hx hb dD_feederOf_32 (by decide) ?_
      refine lv_istore_n (lv' := [(3, .int 0), (2, .int (-1)), (0, .ref (a 22)), (1, .int (nI j))]) hx hb dD_feederOf_33 rfl hl (by decide) rfl (fun ls hl => ?_)
      have loop34 : ∀ (k9 : Nat) (i : Nat) (g : Int32) (hi : i + k9 = n) (hg : g = -1 ∨ ∃ h, h < 12 ∧ g = nI h) (hres : mbF (mNbP rd ma mb mc co jn j) k9 i g = mFeed rd ma mb mc co jn ro n j) (H : Heap) (locs : List Loc) (ls : Array Slot), gW D a w H → va_S (gF B0) s.heap H locs → lv_has ls 5 [(0, .ref (a 22)), (1, .int (nI j)), (2, .int g), (3, .int (nI i))] → W p l e rmD_feederOf s m args below meth c H locs 0 0 Q (F0 m 34 ls []) := by
        intro k9
        induction k9 using Nat.strongRecOn with
        | _ k9 ih34 =>
          intro i g hi hg hres H locs ls hG hS hl
          refine lv_iload_n hx hb dD_feederOf_34 rfl (lv_at hl 3 rfl) ?_
          refine lv_aload_n hx hb dD_feederOf_35 rfl (lv_at hl 0 rfl) ?_
          refine g_get hx hb hts inD hown hK hG 22 (by decide) hsD22 rfl 1 (by decide) lkD_70 rfl dD_feederOf_36 ?_
          refine ln_icmp_ge (x := i) (y := n) (tgt := 110) hx hb dD_feederOf_39 (by decide) (by omega) (by omega) (fun c3 => ?_) (fun c3 => ?_)
          · obtain rfl : k9 = 0 := by omega
            refine lv_iload_n hx hb dD_feederOf_110 rfl (lv_at hl 2 rfl) ?_
            exact g_iret hQ hx hb hr hlk hG hK hS (by decide) (by decide) ⟨by exact hres, rfl⟩ dD_feederOf_111
          · obtain ⟨k8, rfl⟩ : ∃ z, k9 = z + 1 := ⟨k9 - 1, by omega⟩
            refine lv_aload_n hx hb dD_feederOf_42 rfl (lv_at hl 0 rfl) ?_
            refine g_get hx hb hts inD hown hK hG 22 (by decide) hsD22 rfl 7 (by decide) lkD_26 rfl dD_feederOf_43 ?_
            refine lv_iload_n hx hb dD_feederOf_46 rfl (lv_at hl 1 rfl) ?_
            refine g_iald hx hb hK hG 28 (by decide) hsDP28 (j := j) (by omega) (by decide) dD_feederOf_47 ?_
            refine lv_iload_n hx hb dD_feederOf_48 rfl (lv_at hl 3 rfl) ?_
            refine lv_ishr hx hb dD_feederOf_49 ?_
            refine lv_iconst (v := 1) hx hb dD_feederOf_50 (by decide) ?_
            refine lv_iand hx hb dD_feederOf_51 ?_
            refine lv_iconst (v := 1) hx hb dD_feederOf_52 (by decide) ?_
            refine lv_icmp_ne (tgt := 68) hx hb dD_feederOf_53 (by decide) (fun c4 => ?_) (fun c4 => ?_)
            · refine lv_iconst (v := 0) hx hb dD_feederOf_68 (by decide) ?_
              refine lv_istore (lv' := [(4, .int 0), (0, .ref (a 22)), (1, .int (nI j)), (2, .int g), (3, .int (nI i))]) hx hb dD_feederOf_69 hl (by decide) rfl (fun ls hl => ?_)
              refine lv_iload hx hb dD_feederOf_71 (lv_at hl 0 rfl) ?_
              refine lv_if_eq (tgt := 104) hx hb dD_feederOf_73 (by decide) (fun _ => ?_) (fun h9 => absurd h9 (by decide))
              refine lv_iinc (v := (nI (i + 1))) (lv' := [(3, .int (nI (i + 1))), (4, .int 0), (0, .ref (a 22)), (1, .int (nI j)), (2, .int g)]) hx hb dD_feederOf_104 hl (k := 4) rfl (nI_add i 1) (by decide) rfl (fun ls hl => ?_)
              refine lv_goto (tgt := 34) hx hb dD_feederOf_107 (by decide) ?_
              exact ih34 k8 (by omega) (i + 1) g (by omega) hg (by first | exact (mbF_y ⟨⟨by assumption, by assumption⟩, by assumption, Or.inl (by assumption)⟩).symm.trans hres | exact (mbF_y ⟨⟨by assumption, by assumption⟩, by assumption, Or.inr (by rw [nI_clamp (by omega)]; assumption)⟩).symm.trans hres | exact (mbF_n (fun h9 => by first | exact absurd h9.1.1 (by assumption) | exact absurd h9.1.2 (by assumption) | exact absurd h9.2.1 (Int64.not_lt.mpr (by assumption)) | (rcases h9.2.2 with h8 | h8; exact absurd h8 (by assumption); rw [nI_clamp (by omega)] at h8; exact absurd h8 (Int64.not_lt.mpr (by assumption))))).symm.trans hres) _ _ _ hG hS (lv_sub hl [2, 3, 4, 0] rfl)
            · refine lv_aload_n hx hb dD_feederOf_56 rfl (lv_at hl 0 rfl) ?_
              refine lv_iload_n hx hb dD_feederOf_57 rfl (lv_at hl 3 rfl) ?_
              refine g_ViR (i := 22) (As := [.int (nI i)]) (rest := []) (kD_isTold hA hsD22 ⟨hsDP23, hsDP24, hsDP25, hsDP26, hsDP27, hsDP28, hsDP29⟩ i (by omega)) calD_isTold cvD_isTold mlD_101 hx hb hml hown hts hB hG hK hS (by decide) hsD22 rfl ⟨by decide, by decide⟩ rfl hl.1 rfl (Nat.le_of_ble_eq_true rfl) dD_feederOf_58 ⟨by decide, by decide⟩ (fun H locs hG hS => ?_)
              refine lb_if_eq (tgt := 68) hx hb dD_feederOf_61 (by decide) (fun c6 => ?_) (fun c6 => ?_)
              · refine lv_iconst (v := 0) hx hb dD_feederOf_68 (by decide) ?_
                refine lv_istore (lv' := [(4, .int 0), (0, .ref (a 22)), (1, .int (nI j)), (2, .int g), (3, .int (nI i))]) hx hb dD_feederOf_69 hl (by decide) rfl (fun ls hl => ?_)
                refine lv_iload hx hb dD_feederOf_71 (lv_at hl 0 rfl) ?_
                refine lv_if_eq (tgt := 104) hx hb dD_feederOf_73 (by decide) (fun _ => ?_) (fun h9 => absurd h9 (by decide))
                refine lv_iinc (v := (nI (i + 1))) (lv' := [(3, .int (nI (i + 1))), (4, .int 0), (0, .ref (a 22)), (1, .int (nI j)), (2, .int g)]) hx hb dD_feederOf_104 hl (k := 4) rfl (nI_add i 1) (by decide) rfl (fun ls hl => ?_)
                refine lv_goto (tgt := 34) hx hb dD_feederOf_107 (by decide) ?_
                exact ih34 k8 (by omega) (i + 1) g (by omega) hg (by first | exact (mbF_y ⟨⟨by assumption, by assumption⟩, by assumption, Or.inl (by assumption)⟩).symm.trans hres | exact (mbF_y ⟨⟨by assumption, by assumption⟩, by assumption, Or.inr (by rw [nI_clamp (by omega)]; assumption)⟩).symm.trans hres | exact (mbF_n (fun h9 => by first | exact absurd h9.1.1 (by assumption) | exact absurd h9.1.2 (by assumption) | exact absurd h9.2.1 (Int64.not_lt.mpr (by assumption)) | (rcases h9.2.2 with h8 | h8; exact absurd h8 (by assumption); rw [nI_clamp (by omega)] at h8; exact absurd h8 (Int64.not_lt.mpr (by assumption))))).symm.trans hres) _ _ _ hG hS (lv_sub hl [2, 3, 4, 0] rfl)
              · refine lv_iconst (v := 1) hx hb dD_feederOf_64 (by decide) ?_
                refine lv_goto (tgt := 69) hx hb dD_feederOf_65 (by decide) ?_
                refine lv_istore (lv' := [(4, .int 1), (0, .ref (a 22)), (1, .int (nI j)), (2, .int g), (3, .int (nI i))]) hx hb dD_feederOf_69 hl (by decide) rfl (fun ls hl => ?_)
                refine lv_iload hx hb dD_feederOf_71 (lv_at hl 0 rfl) ?_
                refine lv_if_eq (tgt := 104) hx hb dD_feederOf_73 (by decide) (fun h9 => absurd h9 (by decide)) (fun _ => ?_)
                refine lv_aload_n hx hb dD_feederOf_76 rfl (lv_at hl 1 rfl) ?_
                refine lv_iload_n hx hb dD_feederOf_77 rfl (lv_at hl 4 rfl) ?_
                refine lv_iload_n hx hb dD_feederOf_78 rfl (lv_at hl 2 rfl) ?_
                refine g_VlR (i := 22) (As := [.int (nI i), .int (nI j)]) (rest := []) (kD_compare hA hsD22 ⟨hsDP23, hsDP24, hsDP25, hsDP26, hsDP27, hsDP28, hsDP29⟩ i j (by omega) (by omega)) calD_compare cvD_compare mlD_104 hx hb hml hown hts hB hG hK hS (by decide) hsD22 rfl ⟨by decide, by decide⟩ rfl hl.1 rfl (Nat.le_of_ble_eq_true rfl) dD_feederOf_79 ⟨by decide, by decide⟩ (fun H locs hG hS => ?_)
                refine lv_lconst (v := 0) hx hb dD_feederOf_82 (by decide) ?_
                refine W.lcmp hx hb dD_feederOf_83 ?_
                refine lc_if_le (tgt := 104) hx hb dD_feederOf_84 (by decide) (fun c9 => ?_) (fun c9 => ?_)
                · refine lv_iinc (v := (nI (i + 1))) (lv' := [(3, .int (nI (i + 1))), (4, .int 1), (0, .ref (a 22)), (1, .int (nI j)), (2, .int g)]) hx hb dD_feederOf_104 hl (k := 4) rfl (nI_add i 1) (by decide) rfl (fun ls hl => ?_)
                  refine lv_goto (tgt := 34) hx hb dD_feederOf_107 (by decide) ?_
                  exact ih34 k8 (by omega) (i + 1) g (by omega) hg (by first | exact (mbF_y ⟨⟨by assumption, by assumption⟩, by assumption, Or.inl (by assumption)⟩).symm.trans hres | exact (mbF_y ⟨⟨by assumption, by assumption⟩, by assumption, Or.inr (by rw [nI_clamp (by omega)]; assumption)⟩).symm.trans hres | exact (mbF_n (fun h9 => by first | exact absurd h9.1.1 (by assumption) | exact absurd h9.1.2 (by assumption) | exact absurd h9.2.1 (Int64.not_lt.mpr (by assumption)) | (rcases h9.2.2 with h8 | h8; exact absurd h8 (by assumption); rw [nI_clamp (by omega)] at h8; exact absurd h8 (Int64.not_lt.mpr (by assumption))))).symm.trans hres) _ _ _ hG hS (lv_sub hl [2, 3, 4, 0] rfl)
                · refine lv_iload_n hx hb dD_feederOf_87 rfl (lv_at hl 3 rfl) ?_
                  refine lv_if_lt (tgt := 102) hx hb dD_feederOf_88 (by decide) (fun c10 => ?_) (fun c10 => ?_)
                  · refine lv_iload_n hx hb dD_feederOf_102 rfl (lv_at hl 4 rfl) ?_
                    refine lv_istore_n (lv' := [(2, .int (nI i)), (4, .int 1), (0, .ref (a 22)), (1, .int (nI j)), (3, .int (nI i))]) hx hb dD_feederOf_103 rfl hl (by decide) rfl (fun ls hl => ?_)
                    refine lv_iinc (v := (nI (i + 1))) (lv' := [(3, .int (nI (i + 1))), (2, .int (nI i)), (4, .int 1), (0, .ref (a 22)), (1, .int (nI j))]) hx hb dD_feederOf_104 hl (k := 4) rfl (nI_add i 1) (by decide) rfl (fun ls hl => ?_)
                    refine lv_goto (tgt := 34) hx hb dD_feederOf_107 (by decide) ?_
                    exact ih34 k8 (by omega) (i + 1) (nI i) (by omega) (Or.inr ⟨i, by omega, rfl⟩) (by first | exact (mbF_y ⟨⟨by assumption, by assumption⟩, by assumption, Or.inl (by assumption)⟩).symm.trans hres | exact (mbF_y ⟨⟨by assumption, by assumption⟩, by assumption, Or.inr (by rw [nI_clamp (by omega)]; assumption)⟩).symm.trans hres | exact (mbF_n (fun h9 => by first | exact absurd h9.1.1 (by assumption) | exact absurd h9.1.2 (by assumption) | exact absurd h9.2.1 (Int64.not_lt.mpr (by assumption)) | (rcases h9.2.2 with h8 | h8; exact absurd h8 (by assumption); rw [nI_clamp (by omega)] at h8; exact absurd h8 (Int64.not_lt.mpr (by assumption))))).symm.trans hres) _ _ _ hG hS (lv_sub hl [3, 4, 1, 0] rfl)
                  · obtain ⟨h, hh, rfl⟩ : ∃ h, h < 12 ∧ g = nI h := by rcases hg with rfl | hg; exact absurd (by decide) (by assumption : ¬ (-1 : Int32) < 0); exact hg
                    refine lv_aload_n hx hb dD_feederOf_91 rfl (lv_at hl 1 rfl) ?_
                    refine lv_iload_n hx hb dD_feederOf_92 rfl (lv_at hl 4 rfl) ?_
                    refine lv_iload_n hx hb dD_feederOf_93 rfl (lv_at hl 3 rfl) ?_
                    refine g_VlR (i := 22) (As := [.int (nI i), .int (nI h)]) (rest := []) (kD_compare hA hsD22 ⟨hsDP23, hsDP24, hsDP25, hsDP26, hsDP27, hsDP28, hsDP29⟩ i h (by omega) (by omega)) calD_compare cvD_compare mlD_104 hx hb hml hown hts hB hG hK hS (by decide) hsD22 rfl ⟨by decide, by decide⟩ rfl hl.1 rfl (Nat.le_of_ble_eq_true rfl) dD_feederOf_94 ⟨by decide, by decide⟩ (fun H locs hG hS => ?_)
                    refine lv_lconst (v := 0) hx hb dD_feederOf_97 (by decide) ?_
                    refine W.lcmp hx hb dD_feederOf_98 ?_
                    refine lc_if_le (tgt := 104) hx hb dD_feederOf_99 (by decide) (fun c11 => ?_) (fun c11 => ?_)
                    · refine lv_iinc (v := (nI (i + 1))) (lv' := [(3, .int (nI (i + 1))), (4, .int 1), (0, .ref (a 22)), (1, .int (nI j)), (2, .int (nI h))]) hx hb dD_feederOf_104 hl (k := 4) rfl (nI_add i 1) (by decide) rfl (fun ls hl => ?_)
                      refine lv_goto (tgt := 34) hx hb dD_feederOf_107 (by decide) ?_
                      exact ih34 k8 (by omega) (i + 1) (nI h) (by omega) (Or.inr ⟨h, hh, rfl⟩) (by first | exact (mbF_y ⟨⟨by assumption, by assumption⟩, by assumption, Or.inl (by assumption)⟩).symm.trans hres | exact (mbF_y ⟨⟨by assumption, by assumption⟩, by assumption, Or.inr (by rw [nI_clamp (by omega)]; assumption)⟩).symm.trans hres | exact (mbF_n (fun h9 => by first | exact absurd h9.1.1 (by assumption) | exact absurd h9.1.2 (by assumption) | exact absurd h9.2.1 (Int64.not_lt.mpr (by assumption)) | (rcases h9.2.2 with h8 | h8; exact absurd h8 (by assumption); rw [nI_clamp (by omega)] at h8; exact absurd h8 (Int64.not_lt.mpr (by assumption))))).symm.trans hres) _ _ _ hG hS (lv_sub hl [2, 3, 4, 0] rfl)
                    · refine lv_iload_n hx hb dD_feederOf_102 rfl (lv_at hl 4 rfl) ?_
                      refine lv_istore_n (lv' := [(2, .int (nI i)), (4, .int 1), (0, .ref (a 22)), (1, .int (nI j)), (3, .int (nI i))]) hx hb dD_feederOf_103 rfl hl (by decide) rfl (fun ls hl => ?_)
                      refine lv_iinc (v := (nI (i + 1))) (lv' := [(3, .int (nI (i + 1))), (2, .int (nI i)), (4, .int 1), (0, .ref (a 22)), (1, .int (nI j))]) hx hb dD_feederOf_104 hl (k := 4) rfl (nI_add i 1) (by decide) rfl (fun ls hl => ?_)
                      refine lv_goto (tgt := 34) hx hb dD_feederOf_107 (by decide) ?_
                      exact ih34 k8 (by omega) (i + 1) (nI i) (by omega) (Or.inr ⟨i, by omega, rfl⟩) (by first | exact (mbF_y ⟨⟨by assumption, by assumption⟩, by assumption, Or.inl (by assumption)⟩).symm.trans hres | exact (mbF_y ⟨⟨by assumption, by assumption⟩, by assumption, Or.inr (by rw [nI_clamp (by omega)]; assumption)⟩).symm.trans hres | exact (mbF_n (fun h9 => by first | exact absurd h9.1.1 (by assumption) | exact absurd h9.1.2 (by assumption) | exact absurd h9.2.1 (Int64.not_lt.mpr (by assumption)) | (rcases h9.2.2 with h8 | h8; exact absurd h8 (by assumption); rw [nI_clamp (by omega)] at h8; exact absurd h8 (Int64.not_lt.mpr (by assumption))))).symm.trans hres) _ _ _ hG hS (lv_sub hl [3, 4, 1, 0] rfl)
      exact loop34 n 0 (-1) (by omega) (Or.inl rfl) (by unfold mFeed; rw [if_pos (by assumption), if_pos (by assumption)]) _ _ _ hG hS (lv_sub hl [2, 3, 1, 0] rfl)
    · refine lv_bipush (v := 100) hx hb dD_feederOf_20 (by decide) ?_
      refine lv_aload_n hx hb dD_feederOf_22 rfl (lv_at hl 0 rfl) ?_
      refine g_get hx hb hts inD hown hK hG 22 (by decide) hsD22 rfl 8 (by decide) lkD_29 rfl dD_feederOf_23 ?_
      refine lv_iload_n hx hb dD_feederOf_26 rfl (lv_at hl 1 rfl) ?_
      refine g_iald hx hb hK hG 29 (by decide) hsDP29 (j := j) (by omega) (by decide) dD_feederOf_27 ?_
      refine lv_iadd hx hb dD_feederOf_28 ?_
      exact g_iret hQ hx hb hr hlk hG hK hS (by decide) (by decide) ⟨by unfold mFeed; rw [if_pos (by assumption), if_neg (by assumption)], rfl⟩ dD_feederOf_29
  · refine lv_bipush (v := (-2)) hx hb dD_feederOf_8 (by decide) ?_
    exact g_iret hQ hx hb hr hlk hG hK hS (by decide) (by decide) ⟨by unfold mFeed; rw [if_neg (by assumption)], rfl⟩ dD_feederOf_10

abbrev rmD_flowAt : Room := { frames := 0, cells := 0, slots := 0, locals := 0 }
set_option maxRecDepth 100000 in
set_option maxHeartbeats 4000000 in
theorem kD_flowAt {l : Launch} {D : va_G} {k : ClassId × ClassId × ClassId} {a : Nat → Nat} {B0 : Nat} {w : Nat → va_E} (hA : gA B0 a) {th : Int32} {n : Nat} {nr : Nat} {nf : Nat} {bw : Int32} {bd : Int32} {nt : Nat} {mo : Nat → Int32} {mf : Nat → Int32} (hsD : sD k a w th n nr nf bw bd nt) (hsDF : sDF k a w mo mf) (q : Int32) (hn : nf ≤ 8) (h0 : 0 < nf) : Met l yD_flowAt (tbw yD_flowAt cD_flowAt 5 (some .int)) rmD_flowAt (gPc D k a B0 w [.ref (a 22), .int q]) (va_Qi (roP (mFl mo mf nf q) w) (gB D k a) (gF B0)) 0 0 (gF B0) := by
  have hsD22 := hsD
  obtain ⟨hsDF32, hsDF33⟩ := hsDF
  refine g_ofW (by decide) rfl (fun p e s m args below meth c Q hQ hx hb hr hlk hml hown hts hB hG hK hS ls hl => ?_)
  have hl : lv_has ls 5 [(0, .ref (a 22)), (1, .int q)] := hl
  have hown : s.vm.findClass RD = some m.cls := hown
  refine lv_iload_n hx hb dD_flowAt_0 rfl (lv_at hl 1 rfl) ?_
  refine lv_aload_n hx hb dD_flowAt_1 rfl (lv_at hl 0 rfl) ?_
  refine g_get hx hb hts inD hown hK hG 22 (by decide) hsD22 rfl 13 (by decide) lkD_38 rfl dD_flowAt_2 ?_
  refine lv_iconst (v := 0) hx hb dD_flowAt_5 (by decide) ?_
  refine g_iald hx hb hK hG 32 (by decide) hsDF32 (j := 0) (by omega) (by decide) dD_flowAt_6 ?_
  refine lv_icmp_gt (tgt := 17) hx hb dD_flowAt_7 (by decide) (fun c1 => ?_) (fun c1 => ?_)
  · refine lv_iload_n hx hb dD_flowAt_17 rfl (lv_at hl 1 rfl) ?_
    refine lv_aload_n hx hb dD_flowAt_18 rfl (lv_at hl 0 rfl) ?_
    refine g_get hx hb hts inD hown hK hG 22 (by decide) hsD22 rfl 13 (by decide) lkD_38 rfl dD_flowAt_19 ?_
    refine lv_aload_n hx hb dD_flowAt_22 rfl (lv_at hl 0 rfl) ?_
    refine g_get hx hb hts inD hown hK hG 22 (by decide) hsD22 rfl 12 (by decide) lkD_122 rfl dD_flowAt_23 ?_
    refine lv_iconst (v := 1) hx hb dD_flowAt_26 (by decide) ?_
    refine ln_isub (x := nf) (y := 1) hx hb dD_flowAt_27 (by omega) ?_
    refine g_iald hx hb hK hG 32 (by decide) hsDF32 (j := nf - 1) (by omega) (by decide) dD_flowAt_28 ?_
    refine lv_icmp_lt (tgt := 44) hx hb dD_flowAt_29 (by decide) (fun c2 => ?_) (fun c2 => ?_)
    · refine lv_iconst (v := 1) hx hb dD_flowAt_44 (by decide) ?_
      refine lv_istore_n (lv' := [(2, .int 1), (0, .ref (a 22)), (1, .int q)]) hx hb dD_flowAt_45 rfl hl (by decide) rfl (fun ls hl => ?_)
      have loop46 : ∀ (k9 : Nat) (i : Nat) (hi : i + k9 = nf - 1) (hi1 : 1 ≤ i) (hlt : mo (i - 1) < q) (hres : mfF mo q k9 i = mfF mo q (nf - 2) 1) (H : Heap) (locs : List Loc) (ls : Array Slot), gW D a w H → va_S (gF B0) s.heap H locs → lv_has ls 5 [(0, .ref (a 22)), (1, .int q), (2, .int (nI i))] → W p l e rmD_flowAt s m args below meth c H locs 0 0 Q (F0 m 46 ls []) := by
        intro k9
        induction k9 using Nat.strongRecOn with
        | _ k9 ih46 =>
          intro i hi hi1 hlt hres H locs ls hG hS hl
          refine lv_aload_n hx hb dD_flowAt_46 rfl (lv_at hl 0 rfl) ?_
          refine g_get hx hb hts inD hown hK hG 22 (by decide) hsD22 rfl 13 (by decide) lkD_38 rfl dD_flowAt_47 ?_
          refine lv_iload_n hx hb dD_flowAt_50 rfl (lv_at hl 2 rfl) ?_
          refine g_iald hx hb hK hG 32 (by decide) hsDF32 (j := i) (by omega) (by decide) dD_flowAt_51 ?_
          refine lv_iload_n hx hb dD_flowAt_52 rfl (lv_at hl 1 rfl) ?_
          refine lv_icmp_ge (tgt := 62) hx hb dD_flowAt_53 (by decide) (fun c3 => ?_) (fun c3 => ?_)
          · refine lv_aload_n hx hb dD_flowAt_62 rfl (lv_at hl 0 rfl) ?_
            refine g_get hx hb hts inD hown hK hG 22 (by decide) hsD22 rfl 14 (by decide) lkD_41 rfl dD_flowAt_63 ?_
            refine lv_iload_n hx hb dD_flowAt_66 rfl (lv_at hl 2 rfl) ?_
            refine g_iald hx hb hK hG 33 (by decide) hsDF33 (j := i) (by omega) (by decide) dD_flowAt_67 ?_
            refine lv_aload_n hx hb dD_flowAt_68 rfl (lv_at hl 0 rfl) ?_
            refine g_get hx hb hts inD hown hK hG 22 (by decide) hsD22 rfl 14 (by decide) lkD_41 rfl dD_flowAt_69 ?_
            refine lv_iload_n hx hb dD_flowAt_72 rfl (lv_at hl 2 rfl) ?_
            refine lv_iconst (v := 1) hx hb dD_flowAt_73 (by decide) ?_
            refine ln_isub (x := i) (y := 1) hx hb dD_flowAt_74 (by omega) ?_
            refine g_iald hx hb hK hG 33 (by decide) hsDF33 (j := i - 1) (by omega) (by decide) dD_flowAt_75 ?_
            refine lv_isub hx hb dD_flowAt_76 ?_
            refine lv_i2l hx hb dD_flowAt_77 rfl ?_
            refine lv_iload_n hx hb dD_flowAt_78 rfl (lv_at hl 1 rfl) ?_
            refine lv_aload_n hx hb dD_flowAt_79 rfl (lv_at hl 0 rfl) ?_
            refine g_get hx hb hts inD hown hK hG 22 (by decide) hsD22 rfl 13 (by decide) lkD_38 rfl dD_flowAt_80 ?_
            refine lv_iload_n hx hb dD_flowAt_83 rfl (lv_at hl 2 rfl) ?_
            refine lv_iconst (v := 1) hx hb dD_flowAt_84 (by decide) ?_
            refine ln_isub (x := i) (y := 1) hx hb dD_flowAt_85 (by omega) ?_
            refine g_iald hx hb hK hG 32 (by decide) hsDF32 (j := i - 1) (by omega) (by decide) dD_flowAt_86 ?_
            refine lv_isub hx hb dD_flowAt_87 ?_
            refine lv_i2l hx hb dD_flowAt_88 rfl ?_
            refine lv_lmul hx hb dD_flowAt_89 ?_
            refine lv_lstore_n (lv' := [(3, .long ((((mf i) - (mf (i - 1))).toInt64) * ((q - (mo (i - 1))).toInt64))), (0, .ref (a 22)), (1, .int q), (2, .int (nI i))]) hx hb dD_flowAt_90 rfl hl (by decide) rfl (fun ls hl => ?_)
            refine lv_aload_n hx hb dD_flowAt_91 rfl (lv_at hl 1 rfl) ?_
            refine g_get hx hb hts inD hown hK hG 22 (by decide) hsD22 rfl 14 (by decide) lkD_41 rfl dD_flowAt_92 ?_
            refine lv_iload_n hx hb dD_flowAt_95 rfl (lv_at hl 3 rfl) ?_
            refine lv_iconst (v := 1) hx hb dD_flowAt_96 (by decide) ?_
            refine ln_isub (x := i) (y := 1) hx hb dD_flowAt_97 (by omega) ?_
            refine g_iald hx hb hK hG 33 (by decide) hsDF33 (j := i - 1) (by omega) (by decide) dD_flowAt_98 ?_
            refine lv_lload_n hx hb dD_flowAt_99 rfl (lv_at hl 0 rfl) ?_
            refine lv_aload_n hx hb dD_flowAt_100 rfl (lv_at hl 1 rfl) ?_
            refine g_get hx hb hts inD hown hK hG 22 (by decide) hsD22 rfl 13 (by decide) lkD_38 rfl dD_flowAt_101 ?_
            refine lv_iload_n hx hb dD_flowAt_104 rfl (lv_at hl 3 rfl) ?_
            refine g_iald hx hb hK hG 32 (by decide) hsDF32 (j := i) (by omega) (by decide) dD_flowAt_105 ?_
            refine lv_aload_n hx hb dD_flowAt_106 rfl (lv_at hl 1 rfl) ?_
            refine g_get hx hb hts inD hown hK hG 22 (by decide) hsD22 rfl 13 (by decide) lkD_38 rfl dD_flowAt_107 ?_
            refine lv_iload_n hx hb dD_flowAt_110 rfl (lv_at hl 3 rfl) ?_
            refine lv_iconst (v := 1) hx hb dD_flowAt_111 (by decide) ?_
            refine ln_isub (x := i) (y := 1) hx hb dD_flowAt_112 (by omega) ?_
            refine g_iald hx hb hK hG 32 (by decide) hsDF32 (j := i - 1) (by omega) (by decide) dD_flowAt_113 ?_
            refine lv_isub hx hb dD_flowAt_114 ?_
            refine lv_i2l hx hb dD_flowAt_115 rfl ?_
            refine lv_ldiv hx hb dD_flowAt_116 (i64_sne hlt (by assumption)) ?_
            refine lv_l2i hx hb dD_flowAt_117 rfl ?_
            refine lv_iadd hx hb dD_flowAt_118 ?_
            exact g_iret hQ hx hb hr hlk hG hK hS (by decide) (by decide) ⟨by unfold mFl; rw [if_pos (by assumption), if_pos (by assumption), ← hres, mfF_y (by assumption)]; rfl, rfl⟩ dD_flowAt_119
          · obtain ⟨k8, rfl⟩ : ∃ z9, k9 = z9 + 1 := ⟨k9 - 1, by
          rcases Nat.eq_zero_or_pos k9 with e | e
          · exfalso; have e2 : i = nf - 1 := by omega
            subst e2; exact absurd (Int32.not_le.mp c3) (Int32.not_lt.mpr (Int32.le_of_lt (by assumption)))
          · omega⟩
            refine lv_iinc (v := (nI (i + 1))) (lv' := [(2, .int (nI (i + 1))), (0, .ref (a 22)), (1, .int q)]) hx hb dD_flowAt_56 hl (k := 2) rfl (nI_add i 1) (by decide) rfl (fun ls hl => ?_)
            refine lv_goto (tgt := 46) hx hb dD_flowAt_59 (by decide) ?_
            exact ih46 k8 (by omega) (i + 1) (by omega) (by omega) (by show mo i < q; exact Int32.not_le.mp (by assumption)) ((mfF_n (by assumption)).symm.trans hres) _ _ _ hG hS (lv_sub hl [1, 2, 0] rfl)
      exact loop46 (nf - 2) 1 (by have h9 : ¬ nf = 1 := fun e => by { subst e; exact absurd (by assumption : q < mo (1 - 1)) (Int32.not_lt.mpr (Int32.le_of_lt (by assumption))) }; omega) (by omega) (by assumption) rfl _ _ _ hG hS (lv_sub hl [1, 2, 0] rfl)
    · refine lv_aload_n hx hb dD_flowAt_32 rfl (lv_at hl 0 rfl) ?_
      refine g_get hx hb hts inD hown hK hG 22 (by decide) hsD22 rfl 14 (by decide) lkD_41 rfl dD_flowAt_33 ?_
      refine lv_aload_n hx hb dD_flowAt_36 rfl (lv_at hl 0 rfl) ?_
      refine g_get hx hb hts inD hown hK hG 22 (by decide) hsD22 rfl 12 (by decide) lkD_122 rfl dD_flowAt_37 ?_
      refine lv_iconst (v := 1) hx hb dD_flowAt_40 (by decide) ?_
      refine ln_isub (x := nf) (y := 1) hx hb dD_flowAt_41 (by omega) ?_
      refine g_iald hx hb hK hG 33 (by decide) hsDF33 (j := nf - 1) (by omega) (by decide) dD_flowAt_42 ?_
      exact g_iret hQ hx hb hr hlk hG hK hS (by decide) (by decide) ⟨by unfold mFl; rw [if_pos (by assumption), if_neg (by assumption)], rfl⟩ dD_flowAt_43
  · refine lv_aload_n hx hb dD_flowAt_10 rfl (lv_at hl 0 rfl) ?_
    refine g_get hx hb hts inD hown hK hG 22 (by decide) hsD22 rfl 14 (by decide) lkD_41 rfl dD_flowAt_11 ?_
    refine lv_iconst (v := 0) hx hb dD_flowAt_14 (by decide) ?_
    refine g_iald hx hb hK hG 33 (by decide) hsDF33 (j := 0) (by omega) (by decide) dD_flowAt_15 ?_
    exact g_iret hQ hx hb hr hlk hG hK hS (by decide) (by decide) ⟨by exact (if_neg (by assumption)).symm, rfl⟩ dD_flowAt_16

abbrev rmD_taken : Room := { frames := 0, cells := 0, slots := 0, locals := 0 }
set_option maxRecDepth 100000 in
set_option maxHeartbeats 4000000 in
theorem kD_taken {l : Launch} {D : va_G} {k : ClassId × ClassId × ClassId} {a : Nat → Nat} {B0 : Nat} {w : Nat → va_E} (hA : gA B0 a) {th : Int32} {n : Nat} {nr : Nat} {nf : Nat} {bw : Int32} {bd : Int32} {nt : Nat} {xa : Nat → Int32} {xf : Nat → Int32} {xw : Nat → Int32} {xd : Nat → Int32} (hsD : sD k a w th n nr nf bw bd nt) (hsDM : sDM k a w xa xf xw xd) (j : Nat) (hj : j ≤ nt) (hj4 : j < 40) (hn : nt ≤ 40) : Met l yD_taken (tbw yD_taken cD_taken 4 (some .int)) rmD_taken (gPc D k a B0 w [.ref (a 22), .int (nI j)]) (va_Qi (roP (mTk xf xw nt j) w) (gB D k a) (gF B0)) 0 0 (gF B0) := by
  have hsD22 := hsD
  obtain ⟨hsDM34, hsDM35, hsDM36, hsDM37⟩ := hsDM
  refine g_ofW (by decide) rfl (fun p e s m args below meth c Q hQ hx hb hr hlk hml hown hts hB hG hK hS ls hl => ?_)
  have hl : lv_has ls 4 [(0, .ref (a 22)), (1, .int (nI j))] := hl
  have hown : s.vm.findClass RD = some m.cls := hown
  refine lv_iconst (v := 0) hx hb dD_taken_0 (by decide) ?_
  refine lv_istore_n (lv' := [(2, .int 0), (0, .ref (a 22)), (1, .int (nI j))]) hx hb dD_taken_1 rfl hl (by decide) rfl (fun ls hl => ?_)
  refine lv_iload_n hx hb dD_taken_2 rfl (lv_at hl 2 rfl) ?_
  refine lv_istore_n (lv' := [(3, .int (nI j)), (2, .int 0), (0, .ref (a 22)), (1, .int (nI j))]) hx hb dD_taken_3 rfl hl (by decide) rfl (fun ls hl => ?_)
  have loop4 : ∀ (k9 : Nat) (i : Nat) (t : Int32) (hi : i + k9 = nt) (hres : tkF xf xw j k9 i t = mTk xf xw nt j) (H : Heap) (locs : List Loc) (ls : Array Slot), gW D a w H → va_S (gF B0) s.heap H locs → lv_has ls 4 [(0, .ref (a 22)), (1, .int (nI j)), (2, .int t), (3, .int (nI i))] → W p l e rmD_taken s m args below meth c H locs 0 0 Q (F0 m 4 ls []) := by
    intro k9
    induction k9 using Nat.strongRecOn with
    | _ k9 ih4 =>
      intro i t hi hres H locs ls hG hS hl
      refine lv_iload_n hx hb dD_taken_4 rfl (lv_at hl 3 rfl) ?_
      refine lv_aload_n hx hb dD_taken_5 rfl (lv_at hl 0 rfl) ?_
      refine g_get hx hb hts inD hown hK hG 22 (by decide) hsD22 rfl 17 (by decide) lkD_132 rfl dD_taken_6 ?_
      refine ln_icmp_ge (x := i) (y := nt) (tgt := 46) hx hb dD_taken_9 (by decide) (by omega) (by omega) (fun c1 => ?_) (fun c1 => ?_)
      · obtain rfl : k9 = 0 := by omega
        refine lv_iload_n hx hb dD_taken_46 rfl (lv_at hl 2 rfl) ?_
        exact g_iret hQ hx hb hr hlk hG hK hS (by decide) (by decide) ⟨by exact hres, rfl⟩ dD_taken_47
      · obtain ⟨k8, rfl⟩ : ∃ z, k9 = z + 1 := ⟨k9 - 1, by omega⟩
        refine lv_iload_n hx hb dD_taken_12 rfl (lv_at hl 2 rfl) ?_
        refine lv_aload_n hx hb dD_taken_13 rfl (lv_at hl 0 rfl) ?_
        refine g_get hx hb hts inD hown hK hG 22 (by decide) hsD22 rfl 19 (by decide) lkD_54 rfl dD_taken_14 ?_
        refine lv_iload_n hx hb dD_taken_17 rfl (lv_at hl 3 rfl) ?_
        refine g_iald hx hb hK hG 35 (by decide) hsDM35 (j := i) (by omega) (by decide) dD_taken_18 ?_
        refine lv_aload_n hx hb dD_taken_19 rfl (lv_at hl 0 rfl) ?_
        refine g_get hx hb hts inD hown hK hG 22 (by decide) hsD22 rfl 19 (by decide) lkD_54 rfl dD_taken_20 ?_
        refine lv_iload_n hx hb dD_taken_23 rfl (lv_at hl 1 rfl) ?_
        refine g_iald hx hb hK hG 35 (by decide) hsDM35 (j := j) (by omega) (by decide) dD_taken_24 ?_
        refine lv_icmp_ne (tgt := 37) hx hb dD_taken_25 (by decide) (fun c2 => ?_) (fun c2 => ?_)
        · refine lv_iconst (v := 0) hx hb dD_taken_37 (by decide) ?_
          refine lv_iadd hx hb dD_taken_38 ?_
          refine lv_istore_n (lv' := [(2, .int (t + 0)), (0, .ref (a 22)), (1, .int (nI j)), (3, .int (nI i))]) hx hb dD_taken_39 rfl hl (by decide) rfl (fun ls hl => ?_)
          refine lv_iinc (v := (nI (i + 1))) (lv' := [(3, .int (nI (i + 1))), (2, .int (t + 0)), (0, .ref (a 22)), (1, .int (nI j))]) hx hb dD_taken_40 hl (k := 3) rfl (nI_add i 1) (by decide) rfl (fun ls hl => ?_)
          refine lv_goto (tgt := 4) hx hb dD_taken_43 (by decide) ?_
          exact ih4 k8 (by omega) (i + 1) (t + 0) (by omega) (by first | exact (tkF_y (by assumption)).symm.trans hres | exact (tkF_n (by assumption)).symm.trans hres) _ _ _ hG hS (lv_sub hl [2, 3, 1, 0] rfl)
        · refine lv_aload_n hx hb dD_taken_28 rfl (lv_at hl 0 rfl) ?_
          refine g_get hx hb hts inD hown hK hG 22 (by decide) hsD22 rfl 20 (by decide) lkD_57 rfl dD_taken_29 ?_
          refine lv_iload_n hx hb dD_taken_32 rfl (lv_at hl 3 rfl) ?_
          refine g_iald hx hb hK hG 36 (by decide) hsDM36 (j := i) (by omega) (by decide) dD_taken_33 ?_
          refine lv_goto (tgt := 38) hx hb dD_taken_34 (by decide) ?_
          refine lv_iadd hx hb dD_taken_38 ?_
          refine lv_istore_n (lv' := [(2, .int (t + (xw i))), (0, .ref (a 22)), (1, .int (nI j)), (3, .int (nI i))]) hx hb dD_taken_39 rfl hl (by decide) rfl (fun ls hl => ?_)
          refine lv_iinc (v := (nI (i + 1))) (lv' := [(3, .int (nI (i + 1))), (2, .int (t + (xw i))), (0, .ref (a 22)), (1, .int (nI j))]) hx hb dD_taken_40 hl (k := 3) rfl (nI_add i 1) (by decide) rfl (fun ls hl => ?_)
          refine lv_goto (tgt := 4) hx hb dD_taken_43 (by decide) ?_
          exact ih4 k8 (by omega) (i + 1) (t + (xw i)) (by omega) (by first | exact (tkF_y (by assumption)).symm.trans hres | exact (tkF_n (by assumption)).symm.trans hres) _ _ _ hG hS (lv_sub hl [2, 3, 1, 0] rfl)
  exact loop4 (nt - j) j 0 (by omega) rfl _ _ _ hG hS (lv_sub hl [2, 3, 1, 0] rfl)

abbrev rmD_shelfFor : Room := { frames := 1, cells := 0, slots := 0, locals := 23 }
set_option maxRecDepth 100000 in
set_option maxHeartbeats 4000000 in
theorem kD_shelfFor {l : Launch} {D : va_G} {k : ClassId × ClassId × ClassId} {a : Nat → Nat} {B0 : Nat} {w : Nat → va_E} (hA : gA B0 a) {th : Int32} {n : Nat} {nr : Nat} {nf : Nat} {bw : Int32} {bd : Int32} {nt : Nat} {xa : Nat → Int32} {xf : Nat → Int32} {xw : Nat → Int32} {xd : Nat → Int32} (hsD : sD k a w th n nr nf bw bd nt) (hsDM : sDM k a w xa xf xw xd) (x : Int32) (y : Int32) (hn : nt ≤ 40) : Met l yD_shelfFor (tbw yD_shelfFor cD_shelfFor 5 (some .int)) rmD_shelfFor (gPc D k a B0 w [.ref (a 22), .int x, .int y]) (va_Qi (roP (fstF (mShP bw xa xf xw xd nt x y) nt 0) w) (gB D k a) (gF B0)) 0 0 (gF B0) := by
  have hsD22 := hsD
  obtain ⟨hsDM34, hsDM35, hsDM36, hsDM37⟩ := hsDM
  refine g_ofW (by decide) rfl (fun p e s m args below meth c Q hQ hx hb hr hlk hml hown hts hB hG hK hS ls hl => ?_)
  have hl : lv_has ls 5 [(0, .ref (a 22)), (1, .int x), (2, .int y)] := hl
  have hown : s.vm.findClass RD = some m.cls := hown
  refine lv_iconst (v := 0) hx hb dD_shelfFor_0 (by decide) ?_
  refine lv_istore_n (lv' := [(3, .int 0), (0, .ref (a 22)), (1, .int x), (2, .int y)]) hx hb dD_shelfFor_1 rfl hl (by decide) rfl (fun ls hl => ?_)
  have loop2 : ∀ (k9 : Nat) (i : Nat) (hi : i + k9 = nt) (hres : fstF (mShP bw xa xf xw xd nt x y) k9 i = fstF (mShP bw xa xf xw xd nt x y) nt 0) (H : Heap) (locs : List Loc) (ls : Array Slot), gW D a w H → va_S (gF B0) s.heap H locs → lv_has ls 5 [(0, .ref (a 22)), (1, .int x), (2, .int y), (3, .int (nI i))] → W p l e rmD_shelfFor s m args below meth c H locs 0 0 Q (F0 m 2 ls []) := by
    intro k9
    induction k9 using Nat.strongRecOn with
    | _ k9 ih2 =>
      intro i hi hres H locs ls hG hS hl
      refine lv_iload_n hx hb dD_shelfFor_2 rfl (lv_at hl 3 rfl) ?_
      refine lv_aload_n hx hb dD_shelfFor_3 rfl (lv_at hl 0 rfl) ?_
      refine g_get hx hb hts inD hown hK hG 22 (by decide) hsD22 rfl 17 (by decide) lkD_132 rfl dD_shelfFor_4 ?_
      refine ln_icmp_ge (x := i) (y := nt) (tgt := 63) hx hb dD_shelfFor_7 (by decide) (by omega) (by omega) (fun c1 => ?_) (fun c1 => ?_)
      · obtain rfl : k9 = 0 := by omega
        refine lv_iconst (v := (-1)) hx hb dD_shelfFor_63 (by decide) ?_
        exact g_iret hQ hx hb hr hlk hG hK hS (by decide) (by decide) ⟨by exact hres, rfl⟩ dD_shelfFor_64
      · obtain ⟨k8, rfl⟩ : ∃ z, k9 = z + 1 := ⟨k9 - 1, by omega⟩
        refine lv_aload_n hx hb dD_shelfFor_10 rfl (lv_at hl 0 rfl) ?_
        refine g_get hx hb hts inD hown hK hG 22 (by decide) hsD22 rfl 18 (by decide) lkD_51 rfl dD_shelfFor_11 ?_
        refine lv_iload_n hx hb dD_shelfFor_14 rfl (lv_at hl 3 rfl) ?_
        refine g_iald hx hb hK hG 34 (by decide) hsDM34 (j := i) (by omega) (by decide) dD_shelfFor_15 ?_
        refine lv_if_ne (tgt := 23) hx hb dD_shelfFor_16 (by decide) (fun c2 => ?_) (fun c2 => ?_)
        · refine lv_iconst (v := 0) hx hb dD_shelfFor_23 (by decide) ?_
          refine lv_istore (lv' := [(4, .int 0), (0, .ref (a 22)), (1, .int x), (2, .int y), (3, .int (nI i))]) hx hb dD_shelfFor_24 hl (by decide) rfl (fun ls hl => ?_)
          refine lv_iload hx hb dD_shelfFor_26 (lv_at hl 0 rfl) ?_
          refine lv_if_eq (tgt := 57) hx hb dD_shelfFor_28 (by decide) (fun _ => ?_) (fun h9 => absurd h9 (by decide))
          refine lv_iinc (v := (nI (i + 1))) (lv' := [(3, .int (nI (i + 1))), (4, .int 0), (0, .ref (a 22)), (1, .int x), (2, .int y)]) hx hb dD_shelfFor_57 hl (k := 4) rfl (nI_add i 1) (by decide) rfl (fun ls hl => ?_)
          refine lv_goto (tgt := 2) hx hb dD_shelfFor_60 (by decide) ?_
          exact ih2 k8 (by omega) (i + 1) (by omega) ((fstF_n (fun h9 => by first | exact absurd h9.1 (by assumption) | exact absurd (by assumption) h9.2.1 | exact absurd (by assumption) h9.2.2)).symm.trans hres) _ _ _ hG hS (lv_sub hl [2, 3, 4, 0] rfl)
        · refine lv_iconst (v := 1) hx hb dD_shelfFor_19 (by decide) ?_
          refine lv_goto (tgt := 24) hx hb dD_shelfFor_20 (by decide) ?_
          refine lv_istore (lv' := [(4, .int 1), (0, .ref (a 22)), (1, .int x), (2, .int y), (3, .int (nI i))]) hx hb dD_shelfFor_24 hl (by decide) rfl (fun ls hl => ?_)
          refine lv_iload hx hb dD_shelfFor_26 (lv_at hl 0 rfl) ?_
          refine lv_if_eq (tgt := 57) hx hb dD_shelfFor_28 (by decide) (fun h9 => absurd h9 (by decide)) (fun _ => ?_)
          refine lv_aload_n hx hb dD_shelfFor_31 rfl (lv_at hl 1 rfl) ?_
          refine g_get hx hb hts inD hown hK hG 22 (by decide) hsD22 rfl 21 (by decide) lkD_60 rfl dD_shelfFor_32 ?_
          refine lv_iload_n hx hb dD_shelfFor_35 rfl (lv_at hl 4 rfl) ?_
          refine g_iald hx hb hK hG 37 (by decide) hsDM37 (j := i) (by omega) (by decide) dD_shelfFor_36 ?_
          refine lv_iload_n hx hb dD_shelfFor_37 rfl (lv_at hl 3 rfl) ?_
          refine lv_icmp_lt (tgt := 57) hx hb dD_shelfFor_38 (by decide) (fun c5 => ?_) (fun c5 => ?_)
          · refine lv_iinc (v := (nI (i + 1))) (lv' := [(3, .int (nI (i + 1))), (4, .int 1), (0, .ref (a 22)), (1, .int x), (2, .int y)]) hx hb dD_shelfFor_57 hl (k := 4) rfl (nI_add i 1) (by decide) rfl (fun ls hl => ?_)
            refine lv_goto (tgt := 2) hx hb dD_shelfFor_60 (by decide) ?_
            exact ih2 k8 (by omega) (i + 1) (by omega) ((fstF_n (fun h9 => by first | exact absurd h9.1 (by assumption) | exact absurd (by assumption) h9.2.1 | exact absurd (by assumption) h9.2.2)).symm.trans hres) _ _ _ hG hS (lv_sub hl [2, 3, 4, 0] rfl)
          · refine lv_aload_n hx hb dD_shelfFor_41 rfl (lv_at hl 1 rfl) ?_
            refine lv_iload_n hx hb dD_shelfFor_42 rfl (lv_at hl 4 rfl) ?_
            refine g_ViR (i := 22) (As := [.int (nI i)]) (rest := []) (kD_taken hA hsD22 ⟨hsDM34, hsDM35, hsDM36, hsDM37⟩ i (by omega) (by omega) (by omega)) calD_taken cvD_taken mlD_135 hx hb hml hown hts hB hG hK hS (by decide) hsD22 rfl ⟨by decide, by decide⟩ rfl hl.1 rfl (Nat.le_of_ble_eq_true rfl) dD_shelfFor_43 ⟨by decide, by decide⟩ (fun H locs hG hS => ?_)
            refine lv_iload_n hx hb dD_shelfFor_46 rfl (lv_at hl 2 rfl) ?_
            refine lv_iadd hx hb dD_shelfFor_47 ?_
            refine lv_aload_n hx hb dD_shelfFor_48 rfl (lv_at hl 1 rfl) ?_
            refine g_get hx hb hts inD hown hK hG 22 (by decide) hsD22 rfl 15 (by decide) lkD_44 rfl dD_shelfFor_49 ?_
            refine lv_icmp_gt (tgt := 57) hx hb dD_shelfFor_52 (by decide) (fun c6 => ?_) (fun c6 => ?_)
            · refine lv_iinc (v := (nI (i + 1))) (lv' := [(3, .int (nI (i + 1))), (4, .int 1), (0, .ref (a 22)), (1, .int x), (2, .int y)]) hx hb dD_shelfFor_57 hl (k := 4) rfl (nI_add i 1) (by decide) rfl (fun ls hl => ?_)
              refine lv_goto (tgt := 2) hx hb dD_shelfFor_60 (by decide) ?_
              exact ih2 k8 (by omega) (i + 1) (by omega) ((fstF_n (fun h9 => by first | exact absurd h9.1 (by assumption) | exact absurd (by assumption) h9.2.1 | exact absurd (by assumption) h9.2.2)).symm.trans hres) _ _ _ hG hS (lv_sub hl [2, 3, 4, 0] rfl)
            · refine lv_iload_n hx hb dD_shelfFor_55 rfl (lv_at hl 4 rfl) ?_
              exact g_iret hQ hx hb hr hlk hG hK hS (by decide) (by decide) ⟨by exact (fstF_y ⟨by assumption, by assumption, by assumption⟩).symm.trans hres, rfl⟩ dD_shelfFor_56
  exact loop2 nt 0 (by omega) rfl _ _ _ hG hS (lv_sub hl [1, 2, 3, 0] rfl)

abbrev rmD_shelvesEnd : Room := { frames := 0, cells := 0, slots := 0, locals := 0 }
set_option maxRecDepth 100000 in
set_option maxHeartbeats 4000000 in
theorem kD_shelvesEnd {l : Launch} {D : va_G} {k : ClassId × ClassId × ClassId} {a : Nat → Nat} {B0 : Nat} {w : Nat → va_E} (hA : gA B0 a) {th : Int32} {n : Nat} {nr : Nat} {nf : Nat} {bw : Int32} {bd : Int32} {nt : Nat} {xa : Nat → Int32} {xf : Nat → Int32} {xw : Nat → Int32} {xd : Nat → Int32} (hsD : sD k a w th n nr nf bw bd nt) (hsDM : sDM k a w xa xf xw xd) (hn : nt ≤ 40) : Met l yD_shelvesEnd (tbw yD_shelvesEnd cD_shelvesEnd 4 (some .int)) rmD_shelvesEnd (gPc D k a B0 w [.ref (a 22)]) (va_Qi (roP (seF xa xf xd nt 0 0) w) (gB D k a) (gF B0)) 0 0 (gF B0) := by
  have hsD22 := hsD
  obtain ⟨hsDM34, hsDM35, hsDM36, hsDM37⟩ := hsDM
  refine g_ofW (by decide) rfl (fun p e s m args below meth c Q hQ hx hb hr hlk hml hown hts hB hG hK hS ls hl => ?_)
  have hl : lv_has ls 4 [(0, .ref (a 22))] := hl
  have hown : s.vm.findClass RD = some m.cls := hown
  refine lv_iconst (v := 0) hx hb dD_shelvesEnd_0 (by decide) ?_
  refine lv_istore_n (lv' := [(1, .int 0), (0, .ref (a 22))]) hx hb dD_shelvesEnd_1 rfl hl (by decide) rfl (fun ls hl => ?_)
  refine lv_iconst (v := 0) hx hb dD_shelvesEnd_2 (by decide) ?_
  refine lv_istore_n (lv' := [(2, .int 0), (1, .int 0), (0, .ref (a 22))]) hx hb dD_shelvesEnd_3 rfl hl (by decide) rfl (fun ls hl => ?_)
  have loop4 : ∀ (k9 : Nat) (i : Nat) (t : Int32) (hi : i + k9 = nt) (hres : seF xa xf xd k9 i t = seF xa xf xd nt 0 0) (H : Heap) (locs : List Loc) (ls : Array Slot), gW D a w H → va_S (gF B0) s.heap H locs → lv_has ls 4 [(0, .ref (a 22)), (1, .int t), (2, .int (nI i))] → W p l e rmD_shelvesEnd s m args below meth c H locs 0 0 Q (F0 m 4 ls []) := by
    intro k9
    induction k9 using Nat.strongRecOn with
    | _ k9 ih4 =>
      intro i t hi hres H locs ls hG hS hl
      refine lv_iload_n hx hb dD_shelvesEnd_4 rfl (lv_at hl 2 rfl) ?_
      refine lv_aload_n hx hb dD_shelvesEnd_5 rfl (lv_at hl 0 rfl) ?_
      refine g_get hx hb hts inD hown hK hG 22 (by decide) hsD22 rfl 17 (by decide) lkD_132 rfl dD_shelvesEnd_6 ?_
      refine ln_icmp_ge (x := i) (y := nt) (tgt := 52) hx hb dD_shelvesEnd_9 (by decide) (by omega) (by omega) (fun c1 => ?_) (fun c1 => ?_)
      · obtain rfl : k9 = 0 := by omega
        refine lv_iload_n hx hb dD_shelvesEnd_52 rfl (lv_at hl 1 rfl) ?_
        exact g_iret hQ hx hb hr hlk hG hK hS (by decide) (by decide) ⟨by exact hres, rfl⟩ dD_shelvesEnd_53
      · obtain ⟨k8, rfl⟩ : ∃ z, k9 = z + 1 := ⟨k9 - 1, by omega⟩
        refine lv_aload_n hx hb dD_shelvesEnd_12 rfl (lv_at hl 0 rfl) ?_
        refine g_get hx hb hts inD hown hK hG 22 (by decide) hsD22 rfl 19 (by decide) lkD_54 rfl dD_shelvesEnd_13 ?_
        refine lv_iload_n hx hb dD_shelvesEnd_16 rfl (lv_at hl 2 rfl) ?_
        refine g_iald hx hb hK hG 35 (by decide) hsDM35 (j := i) (by omega) (by decide) dD_shelvesEnd_17 ?_
        refine lv_aload_n hx hb dD_shelvesEnd_18 rfl (lv_at hl 0 rfl) ?_
        refine g_get hx hb hts inD hown hK hG 22 (by decide) hsD22 rfl 21 (by decide) lkD_60 rfl dD_shelvesEnd_19 ?_
        refine lv_iload_n hx hb dD_shelvesEnd_22 rfl (lv_at hl 2 rfl) ?_
        refine g_iald hx hb hK hG 37 (by decide) hsDM37 (j := i) (by omega) (by decide) dD_shelvesEnd_23 ?_
        refine lv_iadd hx hb dD_shelvesEnd_24 ?_
        refine lv_istore_n (lv' := [(3, .int ((xf i) + (xd i))), (0, .ref (a 22)), (1, .int t), (2, .int (nI i))]) hx hb dD_shelvesEnd_25 rfl hl (by decide) rfl (fun ls hl => ?_)
        refine lv_aload_n hx hb dD_shelvesEnd_26 rfl (lv_at hl 1 rfl) ?_
        refine g_get hx hb hts inD hown hK hG 22 (by decide) hsD22 rfl 18 (by decide) lkD_51 rfl dD_shelvesEnd_27 ?_
        refine lv_iload_n hx hb dD_shelvesEnd_30 rfl (lv_at hl 3 rfl) ?_
        refine g_iald hx hb hK hG 34 (by decide) hsDM34 (j := i) (by omega) (by decide) dD_shelvesEnd_31 ?_
        refine lv_if_ne (tgt := 44) hx hb dD_shelvesEnd_32 (by decide) (fun c2 => ?_) (fun c2 => ?_)
        · refine lv_iload_n hx hb dD_shelvesEnd_44 rfl (lv_at hl 2 rfl) ?_
          refine lv_istore_n (lv' := [(1, .int t), (3, .int ((xf i) + (xd i))), (0, .ref (a 22)), (2, .int (nI i))]) hx hb dD_shelvesEnd_45 rfl hl (by decide) rfl (fun ls hl => ?_)
          refine lv_iinc (v := (nI (i + 1))) (lv' := [(2, .int (nI (i + 1))), (1, .int t), (3, .int ((xf i) + (xd i))), (0, .ref (a 22))]) hx hb dD_shelvesEnd_46 hl (k := 3) rfl (nI_add i 1) (by decide) rfl (fun ls hl => ?_)
          refine lv_goto (tgt := 4) hx hb dD_shelvesEnd_49 (by decide) ?_
          exact ih4 k8 (by omega) (i + 1) t (by omega) (by first | exact (seF_y ⟨by assumption, Int32.not_le.mp (by assumption)⟩).symm.trans hres | exact (seF_n (fun h9 => by first | exact absurd h9.1 (by assumption) | exact absurd h9.2 (Int32.not_lt.mpr (by assumption)))).symm.trans hres) _ _ _ hG hS (lv_sub hl [3, 1, 0] rfl)
        · refine lv_iload_n hx hb dD_shelvesEnd_35 rfl (lv_at hl 0 rfl) ?_
          refine lv_iload_n hx hb dD_shelvesEnd_36 rfl (lv_at hl 2 rfl) ?_
          refine lv_icmp_le (tgt := 44) hx hb dD_shelvesEnd_37 (by decide) (fun c3 => ?_) (fun c3 => ?_)
          · refine lv_iload_n hx hb dD_shelvesEnd_44 rfl (lv_at hl 2 rfl) ?_
            refine lv_istore_n (lv' := [(1, .int t), (3, .int ((xf i) + (xd i))), (0, .ref (a 22)), (2, .int (nI i))]) hx hb dD_shelvesEnd_45 rfl hl (by decide) rfl (fun ls hl => ?_)
            refine lv_iinc (v := (nI (i + 1))) (lv' := [(2, .int (nI (i + 1))), (1, .int t), (3, .int ((xf i) + (xd i))), (0, .ref (a 22))]) hx hb dD_shelvesEnd_46 hl (k := 3) rfl (nI_add i 1) (by decide) rfl (fun ls hl => ?_)
            refine lv_goto (tgt := 4) hx hb dD_shelvesEnd_49 (by decide) ?_
            exact ih4 k8 (by omega) (i + 1) t (by omega) (by first | exact (seF_y ⟨by assumption, Int32.not_le.mp (by assumption)⟩).symm.trans hres | exact (seF_n (fun h9 => by first | exact absurd h9.1 (by assumption) | exact absurd h9.2 (Int32.not_lt.mpr (by assumption)))).symm.trans hres) _ _ _ hG hS (lv_sub hl [3, 1, 0] rfl)
          · refine lv_iload_n hx hb dD_shelvesEnd_40 rfl (lv_at hl 0 rfl) ?_
            refine lv_goto (tgt := 45) hx hb dD_shelvesEnd_41 (by decide) ?_
            refine lv_istore_n (lv' := [(1, .int ((xf i) + (xd i))), (3, .int ((xf i) + (xd i))), (0, .ref (a 22)), (2, .int (nI i))]) hx hb dD_shelvesEnd_45 rfl hl (by decide) rfl (fun ls hl => ?_)
            refine lv_iinc (v := (nI (i + 1))) (lv' := [(2, .int (nI (i + 1))), (1, .int ((xf i) + (xd i))), (3, .int ((xf i) + (xd i))), (0, .ref (a 22))]) hx hb dD_shelvesEnd_46 hl (k := 3) rfl (nI_add i 1) (by decide) rfl (fun ls hl => ?_)
            refine lv_goto (tgt := 4) hx hb dD_shelvesEnd_49 (by decide) ?_
            exact ih4 k8 (by omega) (i + 1) ((xf i) + (xd i)) (by omega) (by first | exact (seF_y ⟨by assumption, Int32.not_le.mp (by assumption)⟩).symm.trans hres | exact (seF_n (fun h9 => by first | exact absurd h9.1 (by assumption) | exact absurd h9.2 (Int32.not_lt.mpr (by assumption)))).symm.trans hres) _ _ _ hG hS (lv_sub hl [3, 1, 0] rfl)
  exact loop4 nt 0 0 (by omega) rfl _ _ _ hG hS (lv_sub hl [2, 1, 0] rfl)
