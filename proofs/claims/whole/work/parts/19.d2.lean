abbrev rmD_box_k : Room := { frames := 2, cells := 0, slots := 0, locals := 42 }
set_option maxRecDepth 100000 in
set_option maxHeartbeats 4000000 in
theorem kD_box_k {l : Launch} {D : va_G} {k : ClassId × ClassId × ClassId} {a : Nat → Nat} {B0 : Nat} {w : Nat → va_E} (hA : gA B0 a) {th : Int32} {n : Nat} {nr : Nat} {nf : Nat} {bw : Int32} {bd : Int32} {nt : Nat} {rd : Nat → Int32} {ma : Nat → Int32} {mb : Nat → Int32} {mc : Nat → Int32} {co : Nat → Int32} {jn : Nat → Int32} {ro : Nat → Int32} (hsD : sD k a w th n nr nf bw bd nt) (hsDP : sDP k a w rd ma mb mc co jn ro) (x : Int32) (y : Int32) (z : Int32) (hn : n < 12) (h1 : szR x) (h2 : szR y) (h3 : szR z) : Met l yD_box (tbw yD_box cD_box 4 (some .int)) rmD_box_k (gPc D k a B0 w [.ref (a 22), .int x, .int y, .int z]) (va_Qi (fun rr9 w1 => rr9 = (nI n) ∧ (sD k a w1 0 (n + 1) nr nf bw bd nt) ∧ (sDP k a w1 (upd rd n (b2i False)) (upd ma n x) (upd mb n y) (upd mc n z) (co6 co n) jn (upd ro n (-1))) ∧ ∀ z, z < 22 ∨ 29 < z → w1 z = w z) (gB D k a) (gF B0)) 0 0 (gF B0) := by
  have hsD22 := hsD
  obtain ⟨hsDP23, hsDP24, hsDP25, hsDP26, hsDP27, hsDP28, hsDP29⟩ := hsDP
  refine g_ofW (by decide) rfl (fun p e s m args below meth c Q hQ hx hb hr hlk hml hown hts hB hG hK hS ls hl => ?_)
  have hl : lv_has ls 4 [(0, .ref (a 22)), (1, .int x), (2, .int y), (3, .int z)] := hl
  have hown : s.vm.findClass RD = some m.cls := hown
  have hfr0 : ∀ z, z < 22 ∨ 29 < z → w z = w z := fun _ _ => rfl
  refine lv_aload_n hx hb dD_box_0 rfl (lv_at hl 0 rfl) ?_
  refine lv_aload_n hx hb dD_box_1 rfl (lv_at hl 0 rfl) ?_
  refine g_get hx hb hts inD hown hK hG 22 (by decide) hsD22 rfl 1 (by decide) lkD_70 rfl dD_box_2 ?_
  refine lv_bipush (v := 12) hx hb dD_box_5 (by decide) ?_
  refine ln_icmp_ne (x := n) (y := 12) (tgt := 14) hx hb dD_box_7 (by decide) (by omega) (by decide) (fun c1 => ?_) (fun c1 => absurd c1 (by omega))
  refine lv_iconst (v := 0) hx hb dD_box_14 (by decide) ?_
  refine lv_iload_n hx hb dD_box_15 rfl (lv_at hl 1 rfl) ?_
  refine g_SiR (As := [.int x]) (rest := [.int 0, .ref (a 22)]) (kD_isSize hA x) calD_isSize cvD_isSize mlD_73 hx hb hml hown hts hB hG hK hS ⟨by decide, by decide⟩ rfl hl.1 rfl (Nat.le_of_ble_eq_true rfl) dD_box_16 ⟨by decide, by decide⟩ (fun H locs hG hS => ?_)
  refine lb_if_eq (tgt := 36) hx hb dD_box_19 (by decide) (fun h9 => absurd h1 h9) (fun _ => ?_)
  refine lv_iload_n hx hb dD_box_22 rfl (lv_at hl 2 rfl) ?_
  refine g_SiR (As := [.int y]) (rest := [.int 0, .ref (a 22)]) (kD_isSize hA y) calD_isSize cvD_isSize mlD_73 hx hb hml hown hts hB hG hK hS ⟨by decide, by decide⟩ rfl hl.1 rfl (Nat.le_of_ble_eq_true rfl) dD_box_23 ⟨by decide, by decide⟩ (fun H locs hG hS => ?_)
  refine lb_if_eq (tgt := 36) hx hb dD_box_26 (by decide) (fun h9 => absurd h2 h9) (fun _ => ?_)
  refine lv_iload_n hx hb dD_box_29 rfl (lv_at hl 3 rfl) ?_
  refine g_SiR (As := [.int z]) (rest := [.int 0, .ref (a 22)]) (kD_isSize hA z) calD_isSize cvD_isSize mlD_73 hx hb hml hown hts hB hG hK hS ⟨by decide, by decide⟩ rfl hl.1 rfl (Nat.le_of_ble_eq_true rfl) dD_box_30 ⟨by decide, by decide⟩ (fun H locs hG hS => ?_)
  refine lb_if_ne (tgt := 40) hx hb dD_box_33 (by decide) (fun _ => ?_) (fun h9 => absurd h3 h9)
  refine lv_iconst (v := 0) hx hb dD_box_40 (by decide) ?_
  refine lv_iconst (v := 0) hx hb dD_box_41 (by decide) ?_
  refine g_Vi (i := 22) (As := [.int 0, .int 0, .int 0]) (rest := []) (kD_throwing hA hsD22 0 0 0) calD_throwing cvD_throwing mlD_77 hx hb hml hown hts hB hG hK hS (by decide) hsD22 rfl ⟨by decide, by decide⟩ rfl hl.1 rfl (Nat.le_of_ble_eq_true rfl) dD_box_42 ⟨by decide, by decide⟩ (fun r5 w6 H locs hp7 hG hS => ?_)
  obtain ⟨er9, h8, hfr10⟩ := hp7
  have h11 : w6 23 = .inl (k.2.2, 12, .inl rd) := (hfr10 23 (by omega)).trans hsDP23
  have h12 : w6 24 = .inl (k.1, 12, .inl ma) := (hfr10 24 (by omega)).trans hsDP24
  have h13 : w6 25 = .inl (k.1, 12, .inl mb) := (hfr10 25 (by omega)).trans hsDP25
  have h14 : w6 26 = .inl (k.1, 12, .inl mc) := (hfr10 26 (by omega)).trans hsDP26
  have h15 : w6 27 = .inl (k.1, 72, .inl co) := (hfr10 27 (by omega)).trans hsDP27
  have h16 : w6 28 = .inl (k.1, 12, .inl jn) := (hfr10 28 (by omega)).trans hsDP28
  have h17 : w6 29 = .inl (k.1, 12, .inl ro) := (hfr10 29 (by omega)).trans hsDP29
  have hfr18 : ∀ z, z < 22 ∨ 29 < z → w6 z = w z := fun z hz => (hfr10 z (by omega)).trans (hfr0 z hz)
  rw [er9]
  refine lb_if_eq (tgt := 50) hx hb dD_box_45 (by decide) (fun _ => ?_) (fun h9 => absurd h9 (by decide))
  refine lv_aload_n hx hb dD_box_50 rfl (lv_at hl 0 rfl) ?_
  refine lv_iconst (v := b2i False) hx hb dD_box_51 (b2i_f id).symm ?_
  refine lv_iload_n hx hb dD_box_52 rfl (lv_at hl 1 rfl) ?_
  refine lv_iload_n hx hb dD_box_53 rfl (lv_at hl 2 rfl) ?_
  refine lv_iload_n hx hb dD_box_54 rfl (lv_at hl 3 rfl) ?_
  refine g_Vi (i := 22) (As := [.int (b2i False), .int x, .int y, .int z]) (rest := []) (kD_add hA h8 ⟨h11, h12, h13, h14, h15, h16, h17⟩ False x y z (by omega)) calD_add cvD_add mlD_81 hx hb hml hown hts hB hG hK hS (by decide) h8 rfl ⟨by decide, by decide⟩ rfl hl.1 rfl (Nat.le_of_ble_eq_true rfl) dD_box_55 ⟨by decide, by decide⟩ (fun r20 w21 H locs hp22 hG hS => ?_)
  obtain ⟨er31, h23, ⟨h24, h25, h26, h27, h28, h29, h30⟩, hfr32⟩ := hp22
  have hfr33 : ∀ z, z < 22 ∨ 29 < z → w21 z = w z := fun z hz => (hfr32 z (by omega)).trans (hfr18 z hz)
  rw [er31]
  exact g_iret hQ hx hb hr hlk hG hK hS (by decide) (by decide) ⟨by first | rfl | omega | (simp_all; done) | grind, h23, ⟨h24, h25, h26, h27, h28, h29, h30⟩, hfr33⟩ dD_box_58

abbrev rmD_box_f : Room := { frames := 2, cells := 0, slots := 0, locals := 42 }
set_option maxRecDepth 100000 in
set_option maxHeartbeats 4000000 in
theorem kD_box_f {l : Launch} {D : va_G} {k : ClassId × ClassId × ClassId} {a : Nat → Nat} {B0 : Nat} {w : Nat → va_E} (hA : gA B0 a) {th : Int32} {n : Nat} {nr : Nat} {nf : Nat} {bw : Int32} {bd : Int32} {nt : Nat} {rd : Nat → Int32} {ma : Nat → Int32} {mb : Nat → Int32} {mc : Nat → Int32} {co : Nat → Int32} {jn : Nat → Int32} {ro : Nat → Int32} (hsD : sD k a w th n nr nf bw bd nt) (hsDP : sDP k a w rd ma mb mc co jn ro) (x : Int32) (y : Int32) (z : Int32) (hn : n = 12) : Met l yD_box (tbw yD_box cD_box 4 (some .int)) rmD_box_f (gPc D k a B0 w [.ref (a 22), .int x, .int y, .int z]) (va_Qi (fun rr9 w1 => rr9 = 0 ∧ (sD k a w1 1 n nr nf bw bd nt) ∧ (sDP k a w1 rd ma mb mc co jn ro) ∧ ∀ z, z < 22 ∨ 29 < z → w1 z = w z) (gB D k a) (gF B0)) 0 0 (gF B0) := by
  have hsD22 := hsD
  obtain ⟨hsDP23, hsDP24, hsDP25, hsDP26, hsDP27, hsDP28, hsDP29⟩ := hsDP
  refine g_ofW (by decide) rfl (fun p e s m args below meth c Q hQ hx hb hr hlk hml hown hts hB hG hK hS ls hl => ?_)
  have hl : lv_has ls 4 [(0, .ref (a 22)), (1, .int x), (2, .int y), (3, .int z)] := hl
  have hown : s.vm.findClass RD = some m.cls := hown
  have hfr0 : ∀ z, z < 22 ∨ 29 < z → w z = w z := fun _ _ => rfl
  refine lv_aload_n hx hb dD_box_0 rfl (lv_at hl 0 rfl) ?_
  refine lv_aload_n hx hb dD_box_1 rfl (lv_at hl 0 rfl) ?_
  refine g_get hx hb hts inD hown hK hG 22 (by decide) hsD22 rfl 1 (by decide) lkD_70 rfl dD_box_2 ?_
  refine lv_bipush (v := 12) hx hb dD_box_5 (by decide) ?_
  refine ln_icmp_ne (x := n) (y := 12) (tgt := 14) hx hb dD_box_7 (by decide) (by omega) (by decide) (fun c1 => absurd c1 (by omega)) (fun c1 => ?_)
  refine lv_iconst (v := 1) hx hb dD_box_10 (by decide) ?_
  refine lv_goto (tgt := 15) hx hb dD_box_11 (by decide) ?_
  refine lv_iload_n hx hb dD_box_15 rfl (lv_at hl 1 rfl) ?_
  refine g_SiR (As := [.int x]) (rest := [.int 1, .ref (a 22)]) (kD_isSize hA x) calD_isSize cvD_isSize mlD_73 hx hb hml hown hts hB hG hK hS ⟨by decide, by decide⟩ rfl hl.1 rfl (Nat.le_of_ble_eq_true rfl) dD_box_16 ⟨by decide, by decide⟩ (fun H locs hG hS => ?_)
  refine lb_if_eq (tgt := 36) hx hb dD_box_19 (by decide) (fun c2 => ?_) (fun c2 => ?_)
  · refine lv_iconst (v := 1) hx hb dD_box_36 (by decide) ?_
    refine lv_goto (tgt := 41) hx hb dD_box_37 (by decide) ?_
    refine lv_iconst (v := 0) hx hb dD_box_41 (by decide) ?_
    refine g_Vi (i := 22) (As := [.int 1, .int 1, .int 0]) (rest := []) (kD_throwing hA hsD22 1 1 0) calD_throwing cvD_throwing mlD_77 hx hb hml hown hts hB hG hK hS (by decide) hsD22 rfl ⟨by decide, by decide⟩ rfl hl.1 rfl (Nat.le_of_ble_eq_true rfl) dD_box_42 ⟨by decide, by decide⟩ (fun r3 w4 H locs hp5 hG hS => ?_)
    obtain ⟨er7, h6, hfr8⟩ := hp5
    have h9 : w4 23 = .inl (k.2.2, 12, .inl rd) := (hfr8 23 (by omega)).trans hsDP23
    have h10 : w4 24 = .inl (k.1, 12, .inl ma) := (hfr8 24 (by omega)).trans hsDP24
    have h11 : w4 25 = .inl (k.1, 12, .inl mb) := (hfr8 25 (by omega)).trans hsDP25
    have h12 : w4 26 = .inl (k.1, 12, .inl mc) := (hfr8 26 (by omega)).trans hsDP26
    have h13 : w4 27 = .inl (k.1, 72, .inl co) := (hfr8 27 (by omega)).trans hsDP27
    have h14 : w4 28 = .inl (k.1, 12, .inl jn) := (hfr8 28 (by omega)).trans hsDP28
    have h15 : w4 29 = .inl (k.1, 12, .inl ro) := (hfr8 29 (by omega)).trans hsDP29
    have hfr16 : ∀ z, z < 22 ∨ 29 < z → w4 z = w z := fun z hz => (hfr8 z (by omega)).trans (hfr0 z hz)
    rw [er7]
    refine lb_if_eq (tgt := 50) hx hb dD_box_45 (by decide) (fun h9 => absurd (by decide) h9) (fun _ => ?_)
    refine lv_iconst (v := 0) hx hb dD_box_48 (by decide) ?_
    exact g_iret hQ hx hb hr hlk hG hK hS (by decide) (by decide) ⟨by first | rfl | omega | (simp_all; done) | grind, h6, ⟨h9, h10, h11, h12, h13, h14, h15⟩, hfr16⟩ dD_box_49
  · refine lv_iload_n hx hb dD_box_22 rfl (lv_at hl 2 rfl) ?_
    refine g_SiR (As := [.int y]) (rest := [.int 1, .ref (a 22)]) (kD_isSize hA y) calD_isSize cvD_isSize mlD_73 hx hb hml hown hts hB hG hK hS ⟨by decide, by decide⟩ rfl hl.1 rfl (Nat.le_of_ble_eq_true rfl) dD_box_23 ⟨by decide, by decide⟩ (fun H locs hG hS => ?_)
    refine lb_if_eq (tgt := 36) hx hb dD_box_26 (by decide) (fun c18 => ?_) (fun c18 => ?_)
    · refine lv_iconst (v := 1) hx hb dD_box_36 (by decide) ?_
      refine lv_goto (tgt := 41) hx hb dD_box_37 (by decide) ?_
      refine lv_iconst (v := 0) hx hb dD_box_41 (by decide) ?_
      refine g_Vi (i := 22) (As := [.int 1, .int 1, .int 0]) (rest := []) (kD_throwing hA hsD22 1 1 0) calD_throwing cvD_throwing mlD_77 hx hb hml hown hts hB hG hK hS (by decide) hsD22 rfl ⟨by decide, by decide⟩ rfl hl.1 rfl (Nat.le_of_ble_eq_true rfl) dD_box_42 ⟨by decide, by decide⟩ (fun r19 w20 H locs hp21 hG hS => ?_)
      obtain ⟨er23, h22, hfr24⟩ := hp21
      have h25 : w20 23 = .inl (k.2.2, 12, .inl rd) := (hfr24 23 (by omega)).trans hsDP23
      have h26 : w20 24 = .inl (k.1, 12, .inl ma) := (hfr24 24 (by omega)).trans hsDP24
      have h27 : w20 25 = .inl (k.1, 12, .inl mb) := (hfr24 25 (by omega)).trans hsDP25
      have h28 : w20 26 = .inl (k.1, 12, .inl mc) := (hfr24 26 (by omega)).trans hsDP26
      have h29 : w20 27 = .inl (k.1, 72, .inl co) := (hfr24 27 (by omega)).trans hsDP27
      have h30 : w20 28 = .inl (k.1, 12, .inl jn) := (hfr24 28 (by omega)).trans hsDP28
      have h31 : w20 29 = .inl (k.1, 12, .inl ro) := (hfr24 29 (by omega)).trans hsDP29
      have hfr32 : ∀ z, z < 22 ∨ 29 < z → w20 z = w z := fun z hz => (hfr24 z (by omega)).trans (hfr0 z hz)
      rw [er23]
      refine lb_if_eq (tgt := 50) hx hb dD_box_45 (by decide) (fun h9 => absurd (by decide) h9) (fun _ => ?_)
      refine lv_iconst (v := 0) hx hb dD_box_48 (by decide) ?_
      exact g_iret hQ hx hb hr hlk hG hK hS (by decide) (by decide) ⟨by first | rfl | omega | (simp_all; done) | grind, h22, ⟨h25, h26, h27, h28, h29, h30, h31⟩, hfr32⟩ dD_box_49
    · refine lv_iload_n hx hb dD_box_29 rfl (lv_at hl 3 rfl) ?_
      refine g_SiR (As := [.int z]) (rest := [.int 1, .ref (a 22)]) (kD_isSize hA z) calD_isSize cvD_isSize mlD_73 hx hb hml hown hts hB hG hK hS ⟨by decide, by decide⟩ rfl hl.1 rfl (Nat.le_of_ble_eq_true rfl) dD_box_30 ⟨by decide, by decide⟩ (fun H locs hG hS => ?_)
      refine lb_if_ne (tgt := 40) hx hb dD_box_33 (by decide) (fun c34 => ?_) (fun c34 => ?_)
      · refine lv_iconst (v := 0) hx hb dD_box_40 (by decide) ?_
        refine lv_iconst (v := 0) hx hb dD_box_41 (by decide) ?_
        refine g_Vi (i := 22) (As := [.int 1, .int 0, .int 0]) (rest := []) (kD_throwing hA hsD22 1 0 0) calD_throwing cvD_throwing mlD_77 hx hb hml hown hts hB hG hK hS (by decide) hsD22 rfl ⟨by decide, by decide⟩ rfl hl.1 rfl (Nat.le_of_ble_eq_true rfl) dD_box_42 ⟨by decide, by decide⟩ (fun r35 w36 H locs hp37 hG hS => ?_)
        obtain ⟨er39, h38, hfr40⟩ := hp37
        have h41 : w36 23 = .inl (k.2.2, 12, .inl rd) := (hfr40 23 (by omega)).trans hsDP23
        have h42 : w36 24 = .inl (k.1, 12, .inl ma) := (hfr40 24 (by omega)).trans hsDP24
        have h43 : w36 25 = .inl (k.1, 12, .inl mb) := (hfr40 25 (by omega)).trans hsDP25
        have h44 : w36 26 = .inl (k.1, 12, .inl mc) := (hfr40 26 (by omega)).trans hsDP26
        have h45 : w36 27 = .inl (k.1, 72, .inl co) := (hfr40 27 (by omega)).trans hsDP27
        have h46 : w36 28 = .inl (k.1, 12, .inl jn) := (hfr40 28 (by omega)).trans hsDP28
        have h47 : w36 29 = .inl (k.1, 12, .inl ro) := (hfr40 29 (by omega)).trans hsDP29
        have hfr48 : ∀ z, z < 22 ∨ 29 < z → w36 z = w z := fun z hz => (hfr40 z (by omega)).trans (hfr0 z hz)
        rw [er39]
        refine lb_if_eq (tgt := 50) hx hb dD_box_45 (by decide) (fun h9 => absurd (by decide) h9) (fun _ => ?_)
        refine lv_iconst (v := 0) hx hb dD_box_48 (by decide) ?_
        exact g_iret hQ hx hb hr hlk hG hK hS (by decide) (by decide) ⟨by first | rfl | omega | (simp_all; done) | grind, h38, ⟨h41, h42, h43, h44, h45, h46, h47⟩, hfr48⟩ dD_box_49
      · refine lv_iconst (v := 1) hx hb dD_box_36 (by decide) ?_
        refine lv_goto (tgt := 41) hx hb dD_box_37 (by decide) ?_
        refine lv_iconst (v := 0) hx hb dD_box_41 (by decide) ?_
        refine g_Vi (i := 22) (As := [.int 1, .int 1, .int 0]) (rest := []) (kD_throwing hA hsD22 1 1 0) calD_throwing cvD_throwing mlD_77 hx hb hml hown hts hB hG hK hS (by decide) hsD22 rfl ⟨by decide, by decide⟩ rfl hl.1 rfl (Nat.le_of_ble_eq_true rfl) dD_box_42 ⟨by decide, by decide⟩ (fun r50 w51 H locs hp52 hG hS => ?_)
        obtain ⟨er54, h53, hfr55⟩ := hp52
        have h56 : w51 23 = .inl (k.2.2, 12, .inl rd) := (hfr55 23 (by omega)).trans hsDP23
        have h57 : w51 24 = .inl (k.1, 12, .inl ma) := (hfr55 24 (by omega)).trans hsDP24
        have h58 : w51 25 = .inl (k.1, 12, .inl mb) := (hfr55 25 (by omega)).trans hsDP25
        have h59 : w51 26 = .inl (k.1, 12, .inl mc) := (hfr55 26 (by omega)).trans hsDP26
        have h60 : w51 27 = .inl (k.1, 72, .inl co) := (hfr55 27 (by omega)).trans hsDP27
        have h61 : w51 28 = .inl (k.1, 12, .inl jn) := (hfr55 28 (by omega)).trans hsDP28
        have h62 : w51 29 = .inl (k.1, 12, .inl ro) := (hfr55 29 (by omega)).trans hsDP29
        have hfr63 : ∀ z, z < 22 ∨ 29 < z → w51 z = w z := fun z hz => (hfr55 z (by omega)).trans (hfr0 z hz)
        rw [er54]
        refine lb_if_eq (tgt := 50) hx hb dD_box_45 (by decide) (fun h9 => absurd (by decide) h9) (fun _ => ?_)
        refine lv_iconst (v := 0) hx hb dD_box_48 (by decide) ?_
        exact g_iret hQ hx hb hr hlk hG hK hS (by decide) (by decide) ⟨by first | rfl | omega | (simp_all; done) | grind, h53, ⟨h56, h57, h58, h59, h60, h61, h62⟩, hfr63⟩ dD_box_49

abbrev rmD_box_z : Room := { frames := 2, cells := 0, slots := 0, locals := 42 }
set_option maxRecDepth 100000 in
set_option maxHeartbeats 4000000 in
theorem kD_box_z {l : Launch} {D : va_G} {k : ClassId × ClassId × ClassId} {a : Nat → Nat} {B0 : Nat} {w : Nat → va_E} (hA : gA B0 a) {th : Int32} {n : Nat} {nr : Nat} {nf : Nat} {bw : Int32} {bd : Int32} {nt : Nat} {rd : Nat → Int32} {ma : Nat → Int32} {mb : Nat → Int32} {mc : Nat → Int32} {co : Nat → Int32} {jn : Nat → Int32} {ro : Nat → Int32} (hsD : sD k a w th n nr nf bw bd nt) (hsDP : sDP k a w rd ma mb mc co jn ro) (x : Int32) (y : Int32) (z : Int32) (hn : n < 12) (hz : ¬ (szR x ∧ szR y ∧ szR z)) : Met l yD_box (tbw yD_box cD_box 4 (some .int)) rmD_box_z (gPc D k a B0 w [.ref (a 22), .int x, .int y, .int z]) (va_Qi (fun rr9 w1 => rr9 = 0 ∧ (sD k a w1 2 n nr nf bw bd nt) ∧ (sDP k a w1 rd ma mb mc co jn ro) ∧ ∀ z, z < 22 ∨ 29 < z → w1 z = w z) (gB D k a) (gF B0)) 0 0 (gF B0) := by
  have hsD22 := hsD
  obtain ⟨hsDP23, hsDP24, hsDP25, hsDP26, hsDP27, hsDP28, hsDP29⟩ := hsDP
  refine g_ofW (by decide) rfl (fun p e s m args below meth c Q hQ hx hb hr hlk hml hown hts hB hG hK hS ls hl => ?_)
  have hl : lv_has ls 4 [(0, .ref (a 22)), (1, .int x), (2, .int y), (3, .int z)] := hl
  have hown : s.vm.findClass RD = some m.cls := hown
  have hfr0 : ∀ z, z < 22 ∨ 29 < z → w z = w z := fun _ _ => rfl
  refine lv_aload_n hx hb dD_box_0 rfl (lv_at hl 0 rfl) ?_
  refine lv_aload_n hx hb dD_box_1 rfl (lv_at hl 0 rfl) ?_
  refine g_get hx hb hts inD hown hK hG 22 (by decide) hsD22 rfl 1 (by decide) lkD_70 rfl dD_box_2 ?_
  refine lv_bipush (v := 12) hx hb dD_box_5 (by decide) ?_
  refine ln_icmp_ne (x := n) (y := 12) (tgt := 14) hx hb dD_box_7 (by decide) (by omega) (by decide) (fun c1 => ?_) (fun c1 => absurd c1 (by omega))
  refine lv_iconst (v := 0) hx hb dD_box_14 (by decide) ?_
  refine lv_iload_n hx hb dD_box_15 rfl (lv_at hl 1 rfl) ?_
  refine g_SiR (As := [.int x]) (rest := [.int 0, .ref (a 22)]) (kD_isSize hA x) calD_isSize cvD_isSize mlD_73 hx hb hml hown hts hB hG hK hS ⟨by decide, by decide⟩ rfl hl.1 rfl (Nat.le_of_ble_eq_true rfl) dD_box_16 ⟨by decide, by decide⟩ (fun H locs hG hS => ?_)
  refine lb_if_eq (tgt := 36) hx hb dD_box_19 (by decide) (fun c2 => ?_) (fun c2 => ?_)
  · refine lv_iconst (v := 1) hx hb dD_box_36 (by decide) ?_
    refine lv_goto (tgt := 41) hx hb dD_box_37 (by decide) ?_
    refine lv_iconst (v := 0) hx hb dD_box_41 (by decide) ?_
    refine g_Vi (i := 22) (As := [.int 0, .int 1, .int 0]) (rest := []) (kD_throwing hA hsD22 0 1 0) calD_throwing cvD_throwing mlD_77 hx hb hml hown hts hB hG hK hS (by decide) hsD22 rfl ⟨by decide, by decide⟩ rfl hl.1 rfl (Nat.le_of_ble_eq_true rfl) dD_box_42 ⟨by decide, by decide⟩ (fun r3 w4 H locs hp5 hG hS => ?_)
    obtain ⟨er7, h6, hfr8⟩ := hp5
    have h9 : w4 23 = .inl (k.2.2, 12, .inl rd) := (hfr8 23 (by omega)).trans hsDP23
    have h10 : w4 24 = .inl (k.1, 12, .inl ma) := (hfr8 24 (by omega)).trans hsDP24
    have h11 : w4 25 = .inl (k.1, 12, .inl mb) := (hfr8 25 (by omega)).trans hsDP25
    have h12 : w4 26 = .inl (k.1, 12, .inl mc) := (hfr8 26 (by omega)).trans hsDP26
    have h13 : w4 27 = .inl (k.1, 72, .inl co) := (hfr8 27 (by omega)).trans hsDP27
    have h14 : w4 28 = .inl (k.1, 12, .inl jn) := (hfr8 28 (by omega)).trans hsDP28
    have h15 : w4 29 = .inl (k.1, 12, .inl ro) := (hfr8 29 (by omega)).trans hsDP29
    have hfr16 : ∀ z, z < 22 ∨ 29 < z → w4 z = w z := fun z hz => (hfr8 z (by omega)).trans (hfr0 z hz)
    rw [er7]
    refine lb_if_eq (tgt := 50) hx hb dD_box_45 (by decide) (fun h9 => absurd (by decide) h9) (fun _ => ?_)
    refine lv_iconst (v := 0) hx hb dD_box_48 (by decide) ?_
    exact g_iret hQ hx hb hr hlk hG hK hS (by decide) (by decide) ⟨by first | rfl | omega | (simp_all; done) | grind, h6, ⟨h9, h10, h11, h12, h13, h14, h15⟩, hfr16⟩ dD_box_49
  · refine lv_iload_n hx hb dD_box_22 rfl (lv_at hl 2 rfl) ?_
    refine g_SiR (As := [.int y]) (rest := [.int 0, .ref (a 22)]) (kD_isSize hA y) calD_isSize cvD_isSize mlD_73 hx hb hml hown hts hB hG hK hS ⟨by decide, by decide⟩ rfl hl.1 rfl (Nat.le_of_ble_eq_true rfl) dD_box_23 ⟨by decide, by decide⟩ (fun H locs hG hS => ?_)
    refine lb_if_eq (tgt := 36) hx hb dD_box_26 (by decide) (fun c18 => ?_) (fun c18 => ?_)
    · refine lv_iconst (v := 1) hx hb dD_box_36 (by decide) ?_
      refine lv_goto (tgt := 41) hx hb dD_box_37 (by decide) ?_
      refine lv_iconst (v := 0) hx hb dD_box_41 (by decide) ?_
      refine g_Vi (i := 22) (As := [.int 0, .int 1, .int 0]) (rest := []) (kD_throwing hA hsD22 0 1 0) calD_throwing cvD_throwing mlD_77 hx hb hml hown hts hB hG hK hS (by decide) hsD22 rfl ⟨by decide, by decide⟩ rfl hl.1 rfl (Nat.le_of_ble_eq_true rfl) dD_box_42 ⟨by decide, by decide⟩ (fun r19 w20 H locs hp21 hG hS => ?_)
      obtain ⟨er23, h22, hfr24⟩ := hp21
      have h25 : w20 23 = .inl (k.2.2, 12, .inl rd) := (hfr24 23 (by omega)).trans hsDP23
      have h26 : w20 24 = .inl (k.1, 12, .inl ma) := (hfr24 24 (by omega)).trans hsDP24
      have h27 : w20 25 = .inl (k.1, 12, .inl mb) := (hfr24 25 (by omega)).trans hsDP25
      have h28 : w20 26 = .inl (k.1, 12, .inl mc) := (hfr24 26 (by omega)).trans hsDP26
      have h29 : w20 27 = .inl (k.1, 72, .inl co) := (hfr24 27 (by omega)).trans hsDP27
      have h30 : w20 28 = .inl (k.1, 12, .inl jn) := (hfr24 28 (by omega)).trans hsDP28
      have h31 : w20 29 = .inl (k.1, 12, .inl ro) := (hfr24 29 (by omega)).trans hsDP29
      have hfr32 : ∀ z, z < 22 ∨ 29 < z → w20 z = w z := fun z hz => (hfr24 z (by omega)).trans (hfr0 z hz)
      rw [er23]
      refine lb_if_eq (tgt := 50) hx hb dD_box_45 (by decide) (fun h9 => absurd (by decide) h9) (fun _ => ?_)
      refine lv_iconst (v := 0) hx hb dD_box_48 (by decide) ?_
      exact g_iret hQ hx hb hr hlk hG hK hS (by decide) (by decide) ⟨by first | rfl | omega | (simp_all; done) | grind, h22, ⟨h25, h26, h27, h28, h29, h30, h31⟩, hfr32⟩ dD_box_49
    · refine lv_iload_n hx hb dD_box_29 rfl (lv_at hl 3 rfl) ?_
      refine g_SiR (As := [.int z]) (rest := [.int 0, .ref (a 22)]) (kD_isSize hA z) calD_isSize cvD_isSize mlD_73 hx hb hml hown hts hB hG hK hS ⟨by decide, by decide⟩ rfl hl.1 rfl (Nat.le_of_ble_eq_true rfl) dD_box_30 ⟨by decide, by decide⟩ (fun H locs hG hS => ?_)
      refine lb_if_ne (tgt := 40) hx hb dD_box_33 (by decide) (fun c34 => ?_) (fun c34 => ?_)
      · exact absurd ⟨by assumption, by assumption, by assumption⟩ hz
      · refine lv_iconst (v := 1) hx hb dD_box_36 (by decide) ?_
        refine lv_goto (tgt := 41) hx hb dD_box_37 (by decide) ?_
        refine lv_iconst (v := 0) hx hb dD_box_41 (by decide) ?_
        refine g_Vi (i := 22) (As := [.int 0, .int 1, .int 0]) (rest := []) (kD_throwing hA hsD22 0 1 0) calD_throwing cvD_throwing mlD_77 hx hb hml hown hts hB hG hK hS (by decide) hsD22 rfl ⟨by decide, by decide⟩ rfl hl.1 rfl (Nat.le_of_ble_eq_true rfl) dD_box_42 ⟨by decide, by decide⟩ (fun r35 w36 H locs hp37 hG hS => ?_)
        obtain ⟨er39, h38, hfr40⟩ := hp37
        have h41 : w36 23 = .inl (k.2.2, 12, .inl rd) := (hfr40 23 (by omega)).trans hsDP23
        have h42 : w36 24 = .inl (k.1, 12, .inl ma) := (hfr40 24 (by omega)).trans hsDP24
        have h43 : w36 25 = .inl (k.1, 12, .inl mb) := (hfr40 25 (by omega)).trans hsDP25
        have h44 : w36 26 = .inl (k.1, 12, .inl mc) := (hfr40 26 (by omega)).trans hsDP26
        have h45 : w36 27 = .inl (k.1, 72, .inl co) := (hfr40 27 (by omega)).trans hsDP27
        have h46 : w36 28 = .inl (k.1, 12, .inl jn) := (hfr40 28 (by omega)).trans hsDP28
        have h47 : w36 29 = .inl (k.1, 12, .inl ro) := (hfr40 29 (by omega)).trans hsDP29
        have hfr48 : ∀ z, z < 22 ∨ 29 < z → w36 z = w z := fun z hz => (hfr40 z (by omega)).trans (hfr0 z hz)
        rw [er39]
        refine lb_if_eq (tgt := 50) hx hb dD_box_45 (by decide) (fun h9 => absurd (by decide) h9) (fun _ => ?_)
        refine lv_iconst (v := 0) hx hb dD_box_48 (by decide) ?_
        exact g_iret hQ hx hb hr hlk hG hK hS (by decide) (by decide) ⟨by first | rfl | omega | (simp_all; done) | grind, h38, ⟨h41, h42, h43, h44, h45, h46, h47⟩, hfr48⟩ dD_box_49

abbrev rmD_cylinder_k : Room := { frames := 2, cells := 0, slots := 0, locals := 42 }
set_option maxRecDepth 100000 in
set_option maxHeartbeats 4000000 in
theorem kD_cylinder_k {l : Launch} {D : va_G} {k : ClassId × ClassId × ClassId} {a : Nat → Nat} {B0 : Nat} {w : Nat → va_E} (hA : gA B0 a) {th : Int32} {n : Nat} {nr : Nat} {nf : Nat} {bw : Int32} {bd : Int32} {nt : Nat} {rd : Nat → Int32} {ma : Nat → Int32} {mb : Nat → Int32} {mc : Nat → Int32} {co : Nat → Int32} {jn : Nat → Int32} {ro : Nat → Int32} (hsD : sD k a w th n nr nf bw bd nt) (hsDP : sDP k a w rd ma mb mc co jn ro) (x : Int32) (y : Int32) (hn : n < 12) (h1 : szR x) (h2 : szR y) : Met l yD_cylinder (tbw yD_cylinder cD_cylinder 3 (some .int)) rmD_cylinder_k (gPc D k a B0 w [.ref (a 22), .int x, .int y]) (va_Qi (fun rr9 w1 => rr9 = (nI n) ∧ (sD k a w1 0 (n + 1) nr nf bw bd nt) ∧ (sDP k a w1 (upd rd n (b2i True)) (upd ma n x) (upd mb n y) (upd mc n 0) (co6 co n) jn (upd ro n (-1))) ∧ ∀ z, z < 22 ∨ 29 < z → w1 z = w z) (gB D k a) (gF B0)) 0 0 (gF B0) := by
  have hsD22 := hsD
  obtain ⟨hsDP23, hsDP24, hsDP25, hsDP26, hsDP27, hsDP28, hsDP29⟩ := hsDP
  refine g_ofW (by decide) rfl (fun p e s m args below meth c Q hQ hx hb hr hlk hml hown hts hB hG hK hS ls hl => ?_)
  have hl : lv_has ls 3 [(0, .ref (a 22)), (1, .int x), (2, .int y)] := hl
  have hown : s.vm.findClass RD = some m.cls := hown
  have hfr0 : ∀ z, z < 22 ∨ 29 < z → w z = w z := fun _ _ => rfl
  refine lv_aload_n hx hb dD_cylinder_0 rfl (lv_at hl 0 rfl) ?_
  refine lv_aload_n hx hb dD_cylinder_1 rfl (lv_at hl 0 rfl) ?_
  refine g_get hx hb hts inD hown hK hG 22 (by decide) hsD22 rfl 1 (by decide) lkD_70 rfl dD_cylinder_2 ?_
  refine lv_bipush (v := 12) hx hb dD_cylinder_5 (by decide) ?_
  refine ln_icmp_ne (x := n) (y := 12) (tgt := 14) hx hb dD_cylinder_7 (by decide) (by omega) (by decide) (fun c1 => ?_) (fun c1 => absurd c1 (by omega))
  refine lv_iconst (v := 0) hx hb dD_cylinder_14 (by decide) ?_
  refine lv_iload_n hx hb dD_cylinder_15 rfl (lv_at hl 1 rfl) ?_
  refine g_SiR (As := [.int x]) (rest := [.int 0, .ref (a 22)]) (kD_isSize hA x) calD_isSize cvD_isSize mlD_73 hx hb hml hown hts hB hG hK hS ⟨by decide, by decide⟩ rfl hl.1 rfl (Nat.le_of_ble_eq_true rfl) dD_cylinder_16 ⟨by decide, by decide⟩ (fun H locs hG hS => ?_)
  refine lb_if_eq (tgt := 29) hx hb dD_cylinder_19 (by decide) (fun h9 => absurd h1 h9) (fun _ => ?_)
  refine lv_iload_n hx hb dD_cylinder_22 rfl (lv_at hl 2 rfl) ?_
  refine g_SiR (As := [.int y]) (rest := [.int 0, .ref (a 22)]) (kD_isSize hA y) calD_isSize cvD_isSize mlD_73 hx hb hml hown hts hB hG hK hS ⟨by decide, by decide⟩ rfl hl.1 rfl (Nat.le_of_ble_eq_true rfl) dD_cylinder_23 ⟨by decide, by decide⟩ (fun H locs hG hS => ?_)
  refine lb_if_ne (tgt := 33) hx hb dD_cylinder_26 (by decide) (fun _ => ?_) (fun h9 => absurd h2 h9)
  refine lv_iconst (v := 0) hx hb dD_cylinder_33 (by decide) ?_
  refine lv_iconst (v := 0) hx hb dD_cylinder_34 (by decide) ?_
  refine g_Vi (i := 22) (As := [.int 0, .int 0, .int 0]) (rest := []) (kD_throwing hA hsD22 0 0 0) calD_throwing cvD_throwing mlD_77 hx hb hml hown hts hB hG hK hS (by decide) hsD22 rfl ⟨by decide, by decide⟩ rfl hl.1 rfl (Nat.le_of_ble_eq_true rfl) dD_cylinder_35 ⟨by decide, by decide⟩ (fun r4 w5 H locs hp6 hG hS => ?_)
  obtain ⟨er8, h7, hfr9⟩ := hp6
  have h10 : w5 23 = .inl (k.2.2, 12, .inl rd) := (hfr9 23 (by omega)).trans hsDP23
  have h11 : w5 24 = .inl (k.1, 12, .inl ma) := (hfr9 24 (by omega)).trans hsDP24
  have h12 : w5 25 = .inl (k.1, 12, .inl mb) := (hfr9 25 (by omega)).trans hsDP25
  have h13 : w5 26 = .inl (k.1, 12, .inl mc) := (hfr9 26 (by omega)).trans hsDP26
  have h14 : w5 27 = .inl (k.1, 72, .inl co) := (hfr9 27 (by omega)).trans hsDP27
  have h15 : w5 28 = .inl (k.1, 12, .inl jn) := (hfr9 28 (by omega)).trans hsDP28
  have h16 : w5 29 = .inl (k.1, 12, .inl ro) := (hfr9 29 (by omega)).trans hsDP29
  have hfr17 : ∀ z, z < 22 ∨ 29 < z → w5 z = w z := fun z hz => (hfr9 z (by omega)).trans (hfr0 z hz)
  rw [er8]
  refine lb_if_eq (tgt := 43) hx hb dD_cylinder_38 (by decide) (fun _ => ?_) (fun h9 => absurd h9 (by decide))
  refine lv_aload_n hx hb dD_cylinder_43 rfl (lv_at hl 0 rfl) ?_
  refine lv_iconst (v := b2i True) hx hb dD_cylinder_44 (b2i_t trivial).symm ?_
  refine lv_iload_n hx hb dD_cylinder_45 rfl (lv_at hl 1 rfl) ?_
  refine lv_iload_n hx hb dD_cylinder_46 rfl (lv_at hl 2 rfl) ?_
  refine lv_iconst (v := 0) hx hb dD_cylinder_47 (by decide) ?_
  refine g_Vi (i := 22) (As := [.int (b2i True), .int x, .int y, .int 0]) (rest := []) (kD_add hA h7 ⟨h10, h11, h12, h13, h14, h15, h16⟩ True x y 0 (by omega)) calD_add cvD_add mlD_81 hx hb hml hown hts hB hG hK hS (by decide) h7 rfl ⟨by decide, by decide⟩ rfl hl.1 rfl (Nat.le_of_ble_eq_true rfl) dD_cylinder_48 ⟨by decide, by decide⟩ (fun r19 w20 H locs hp21 hG hS => ?_)
  obtain ⟨er30, h22, ⟨h23, h24, h25, h26, h27, h28, h29⟩, hfr31⟩ := hp21
  have hfr32 : ∀ z, z < 22 ∨ 29 < z → w20 z = w z := fun z hz => (hfr31 z (by omega)).trans (hfr17 z hz)
  rw [er30]
  exact g_iret hQ hx hb hr hlk hG hK hS (by decide) (by decide) ⟨by first | rfl | omega | (simp_all; done) | grind, h22, ⟨h23, h24, h25, h26, h27, h28, h29⟩, hfr32⟩ dD_cylinder_51

abbrev rmD_cylinder_f : Room := { frames := 2, cells := 0, slots := 0, locals := 42 }
set_option maxRecDepth 100000 in
set_option maxHeartbeats 4000000 in
theorem kD_cylinder_f {l : Launch} {D : va_G} {k : ClassId × ClassId × ClassId} {a : Nat → Nat} {B0 : Nat} {w : Nat → va_E} (hA : gA B0 a) {th : Int32} {n : Nat} {nr : Nat} {nf : Nat} {bw : Int32} {bd : Int32} {nt : Nat} {rd : Nat → Int32} {ma : Nat → Int32} {mb : Nat → Int32} {mc : Nat → Int32} {co : Nat → Int32} {jn : Nat → Int32} {ro : Nat → Int32} (hsD : sD k a w th n nr nf bw bd nt) (hsDP : sDP k a w rd ma mb mc co jn ro) (x : Int32) (y : Int32) (hn : n = 12) : Met l yD_cylinder (tbw yD_cylinder cD_cylinder 3 (some .int)) rmD_cylinder_f (gPc D k a B0 w [.ref (a 22), .int x, .int y]) (va_Qi (fun rr9 w1 => rr9 = 0 ∧ (sD k a w1 1 n nr nf bw bd nt) ∧ (sDP k a w1 rd ma mb mc co jn ro) ∧ ∀ z, z < 22 ∨ 29 < z → w1 z = w z) (gB D k a) (gF B0)) 0 0 (gF B0) := by
  have hsD22 := hsD
  obtain ⟨hsDP23, hsDP24, hsDP25, hsDP26, hsDP27, hsDP28, hsDP29⟩ := hsDP
  refine g_ofW (by decide) rfl (fun p e s m args below meth c Q hQ hx hb hr hlk hml hown hts hB hG hK hS ls hl => ?_)
  have hl : lv_has ls 3 [(0, .ref (a 22)), (1, .int x), (2, .int y)] := hl
  have hown : s.vm.findClass RD = some m.cls := hown
  have hfr0 : ∀ z, z < 22 ∨ 29 < z → w z = w z := fun _ _ => rfl
  refine lv_aload_n hx hb dD_cylinder_0 rfl (lv_at hl 0 rfl) ?_
  refine lv_aload_n hx hb dD_cylinder_1 rfl (lv_at hl 0 rfl) ?_
  refine g_get hx hb hts inD hown hK hG 22 (by decide) hsD22 rfl 1 (by decide) lkD_70 rfl dD_cylinder_2 ?_
  refine lv_bipush (v := 12) hx hb dD_cylinder_5 (by decide) ?_
  refine ln_icmp_ne (x := n) (y := 12) (tgt := 14) hx hb dD_cylinder_7 (by decide) (by omega) (by decide) (fun c1 => absurd c1 (by omega)) (fun c1 => ?_)
  refine lv_iconst (v := 1) hx hb dD_cylinder_10 (by decide) ?_
  refine lv_goto (tgt := 15) hx hb dD_cylinder_11 (by decide) ?_
  refine lv_iload_n hx hb dD_cylinder_15 rfl (lv_at hl 1 rfl) ?_
  refine g_SiR (As := [.int x]) (rest := [.int 1, .ref (a 22)]) (kD_isSize hA x) calD_isSize cvD_isSize mlD_73 hx hb hml hown hts hB hG hK hS ⟨by decide, by decide⟩ rfl hl.1 rfl (Nat.le_of_ble_eq_true rfl) dD_cylinder_16 ⟨by decide, by decide⟩ (fun H locs hG hS => ?_)
  refine lb_if_eq (tgt := 29) hx hb dD_cylinder_19 (by decide) (fun c2 => ?_) (fun c2 => ?_)
  · refine lv_iconst (v := 1) hx hb dD_cylinder_29 (by decide) ?_
    refine lv_goto (tgt := 34) hx hb dD_cylinder_30 (by decide) ?_
    refine lv_iconst (v := 0) hx hb dD_cylinder_34 (by decide) ?_
    refine g_Vi (i := 22) (As := [.int 1, .int 1, .int 0]) (rest := []) (kD_throwing hA hsD22 1 1 0) calD_throwing cvD_throwing mlD_77 hx hb hml hown hts hB hG hK hS (by decide) hsD22 rfl ⟨by decide, by decide⟩ rfl hl.1 rfl (Nat.le_of_ble_eq_true rfl) dD_cylinder_35 ⟨by decide, by decide⟩ (fun r3 w4 H locs hp5 hG hS => ?_)
    obtain ⟨er7, h6, hfr8⟩ := hp5
    have h9 : w4 23 = .inl (k.2.2, 12, .inl rd) := (hfr8 23 (by omega)).trans hsDP23
    have h10 : w4 24 = .inl (k.1, 12, .inl ma) := (hfr8 24 (by omega)).trans hsDP24
    have h11 : w4 25 = .inl (k.1, 12, .inl mb) := (hfr8 25 (by omega)).trans hsDP25
    have h12 : w4 26 = .inl (k.1, 12, .inl mc) := (hfr8 26 (by omega)).trans hsDP26
    have h13 : w4 27 = .inl (k.1, 72, .inl co) := (hfr8 27 (by omega)).trans hsDP27
    have h14 : w4 28 = .inl (k.1, 12, .inl jn) := (hfr8 28 (by omega)).trans hsDP28
    have h15 : w4 29 = .inl (k.1, 12, .inl ro) := (hfr8 29 (by omega)).trans hsDP29
    have hfr16 : ∀ z, z < 22 ∨ 29 < z → w4 z = w z := fun z hz => (hfr8 z (by omega)).trans (hfr0 z hz)
    rw [er7]
    refine lb_if_eq (tgt := 43) hx hb dD_cylinder_38 (by decide) (fun h9 => absurd (by decide) h9) (fun _ => ?_)
    refine lv_iconst (v := 0) hx hb dD_cylinder_41 (by decide) ?_
    exact g_iret hQ hx hb hr hlk hG hK hS (by decide) (by decide) ⟨by first | rfl | omega | (simp_all; done) | grind, h6, ⟨h9, h10, h11, h12, h13, h14, h15⟩, hfr16⟩ dD_cylinder_42
  · refine lv_iload_n hx hb dD_cylinder_22 rfl (lv_at hl 2 rfl) ?_
    refine g_SiR (As := [.int y]) (rest := [.int 1, .ref (a 22)]) (kD_isSize hA y) calD_isSize cvD_isSize mlD_73 hx hb hml hown hts hB hG hK hS ⟨by decide, by decide⟩ rfl hl.1 rfl (Nat.le_of_ble_eq_true rfl) dD_cylinder_23 ⟨by decide, by decide⟩ (fun H locs hG hS => ?_)
    refine lb_if_ne (tgt := 33) hx hb dD_cylinder_26 (by decide) (fun c18 => ?_) (fun c18 => ?_)
    · refine lv_iconst (v := 0) hx hb dD_cylinder_33 (by decide) ?_
      refine lv_iconst (v := 0) hx hb dD_cylinder_34 (by decide) ?_
      refine g_Vi (i := 22) (As := [.int 1, .int 0, .int 0]) (rest := []) (kD_throwing hA hsD22 1 0 0) calD_throwing cvD_throwing mlD_77 hx hb hml hown hts hB hG hK hS (by decide) hsD22 rfl ⟨by decide, by decide⟩ rfl hl.1 rfl (Nat.le_of_ble_eq_true rfl) dD_cylinder_35 ⟨by decide, by decide⟩ (fun r19 w20 H locs hp21 hG hS => ?_)
      obtain ⟨er23, h22, hfr24⟩ := hp21
      have h25 : w20 23 = .inl (k.2.2, 12, .inl rd) := (hfr24 23 (by omega)).trans hsDP23
      have h26 : w20 24 = .inl (k.1, 12, .inl ma) := (hfr24 24 (by omega)).trans hsDP24
      have h27 : w20 25 = .inl (k.1, 12, .inl mb) := (hfr24 25 (by omega)).trans hsDP25
      have h28 : w20 26 = .inl (k.1, 12, .inl mc) := (hfr24 26 (by omega)).trans hsDP26
      have h29 : w20 27 = .inl (k.1, 72, .inl co) := (hfr24 27 (by omega)).trans hsDP27
      have h30 : w20 28 = .inl (k.1, 12, .inl jn) := (hfr24 28 (by omega)).trans hsDP28
      have h31 : w20 29 = .inl (k.1, 12, .inl ro) := (hfr24 29 (by omega)).trans hsDP29
      have hfr32 : ∀ z, z < 22 ∨ 29 < z → w20 z = w z := fun z hz => (hfr24 z (by omega)).trans (hfr0 z hz)
      rw [er23]
      refine lb_if_eq (tgt := 43) hx hb dD_cylinder_38 (by decide) (fun h9 => absurd (by decide) h9) (fun _ => ?_)
      refine lv_iconst (v := 0) hx hb dD_cylinder_41 (by decide) ?_
      exact g_iret hQ hx hb hr hlk hG hK hS (by decide) (by decide) ⟨by first | rfl | omega | (simp_all; done) | grind, h22, ⟨h25, h26, h27, h28, h29, h30, h31⟩, hfr32⟩ dD_cylinder_42
    · refine lv_iconst (v := 1) hx hb dD_cylinder_29 (by decide) ?_
      refine lv_goto (tgt := 34) hx hb dD_cylinder_30 (by decide) ?_
      refine lv_iconst (v := 0) hx hb dD_cylinder_34 (by decide) ?_
      refine g_Vi (i := 22) (As := [.int 1, .int 1, .int 0]) (rest := []) (kD_throwing hA hsD22 1 1 0) calD_throwing cvD_throwing mlD_77 hx hb hml hown hts hB hG hK hS (by decide) hsD22 rfl ⟨by decide, by decide⟩ rfl hl.1 rfl (Nat.le_of_ble_eq_true rfl) dD_cylinder_35 ⟨by decide, by decide⟩ (fun r34 w35 H locs hp36 hG hS => ?_)
      obtain ⟨er38, h37, hfr39⟩ := hp36
      have h40 : w35 23 = .inl (k.2.2, 12, .inl rd) := (hfr39 23 (by omega)).trans hsDP23
      have h41 : w35 24 = .inl (k.1, 12, .inl ma) := (hfr39 24 (by omega)).trans hsDP24
      have h42 : w35 25 = .inl (k.1, 12, .inl mb) := (hfr39 25 (by omega)).trans hsDP25
      have h43 : w35 26 = .inl (k.1, 12, .inl mc) := (hfr39 26 (by omega)).trans hsDP26
      have h44 : w35 27 = .inl (k.1, 72, .inl co) := (hfr39 27 (by omega)).trans hsDP27
      have h45 : w35 28 = .inl (k.1, 12, .inl jn) := (hfr39 28 (by omega)).trans hsDP28
      have h46 : w35 29 = .inl (k.1, 12, .inl ro) := (hfr39 29 (by omega)).trans hsDP29
      have hfr47 : ∀ z, z < 22 ∨ 29 < z → w35 z = w z := fun z hz => (hfr39 z (by omega)).trans (hfr0 z hz)
      rw [er38]
      refine lb_if_eq (tgt := 43) hx hb dD_cylinder_38 (by decide) (fun h9 => absurd (by decide) h9) (fun _ => ?_)
      refine lv_iconst (v := 0) hx hb dD_cylinder_41 (by decide) ?_
      exact g_iret hQ hx hb hr hlk hG hK hS (by decide) (by decide) ⟨by first | rfl | omega | (simp_all; done) | grind, h37, ⟨h40, h41, h42, h43, h44, h45, h46⟩, hfr47⟩ dD_cylinder_42

abbrev rmD_cylinder_z : Room := { frames := 2, cells := 0, slots := 0, locals := 42 }
set_option maxRecDepth 100000 in
set_option maxHeartbeats 4000000 in
theorem kD_cylinder_z {l : Launch} {D : va_G} {k : ClassId × ClassId × ClassId} {a : Nat → Nat} {B0 : Nat} {w : Nat → va_E} (hA : gA B0 a) {th : Int32} {n : Nat} {nr : Nat} {nf : Nat} {bw : Int32} {bd : Int32} {nt : Nat} {rd : Nat → Int32} {ma : Nat → Int32} {mb : Nat → Int32} {mc : Nat → Int32} {co : Nat → Int32} {jn : Nat → Int32} {ro : Nat → Int32} (hsD : sD k a w th n nr nf bw bd nt) (hsDP : sDP k a w rd ma mb mc co jn ro) (x : Int32) (y : Int32) (hn : n < 12) (hz : ¬ (szR x ∧ szR y)) : Met l yD_cylinder (tbw yD_cylinder cD_cylinder 3 (some .int)) rmD_cylinder_z (gPc D k a B0 w [.ref (a 22), .int x, .int y]) (va_Qi (fun rr9 w1 => rr9 = 0 ∧ (sD k a w1 2 n nr nf bw bd nt) ∧ (sDP k a w1 rd ma mb mc co jn ro) ∧ ∀ z, z < 22 ∨ 29 < z → w1 z = w z) (gB D k a) (gF B0)) 0 0 (gF B0) := by
  have hsD22 := hsD
  obtain ⟨hsDP23, hsDP24, hsDP25, hsDP26, hsDP27, hsDP28, hsDP29⟩ := hsDP
  refine g_ofW (by decide) rfl (fun p e s m args below meth c Q hQ hx hb hr hlk hml hown hts hB hG hK hS ls hl => ?_)
  have hl : lv_has ls 3 [(0, .ref (a 22)), (1, .int x), (2, .int y)] := hl
  have hown : s.vm.findClass RD = some m.cls := hown
  have hfr0 : ∀ z, z < 22 ∨ 29 < z → w z = w z := fun _ _ => rfl
  refine lv_aload_n hx hb dD_cylinder_0 rfl (lv_at hl 0 rfl) ?_
  refine lv_aload_n hx hb dD_cylinder_1 rfl (lv_at hl 0 rfl) ?_
  refine g_get hx hb hts inD hown hK hG 22 (by decide) hsD22 rfl 1 (by decide) lkD_70 rfl dD_cylinder_2 ?_
  refine lv_bipush (v := 12) hx hb dD_cylinder_5 (by decide) ?_
  refine ln_icmp_ne (x := n) (y := 12) (tgt := 14) hx hb dD_cylinder_7 (by decide) (by omega) (by decide) (fun c1 => ?_) (fun c1 => absurd c1 (by omega))
  refine lv_iconst (v := 0) hx hb dD_cylinder_14 (by decide) ?_
  refine lv_iload_n hx hb dD_cylinder_15 rfl (lv_at hl 1 rfl) ?_
  refine g_SiR (As := [.int x]) (rest := [.int 0, .ref (a 22)]) (kD_isSize hA x) calD_isSize cvD_isSize mlD_73 hx hb hml hown hts hB hG hK hS ⟨by decide, by decide⟩ rfl hl.1 rfl (Nat.le_of_ble_eq_true rfl) dD_cylinder_16 ⟨by decide, by decide⟩ (fun H locs hG hS => ?_)
  refine lb_if_eq (tgt := 29) hx hb dD_cylinder_19 (by decide) (fun c2 => ?_) (fun c2 => ?_)
  · refine lv_iconst (v := 1) hx hb dD_cylinder_29 (by decide) ?_
    refine lv_goto (tgt := 34) hx hb dD_cylinder_30 (by decide) ?_
    refine lv_iconst (v := 0) hx hb dD_cylinder_34 (by decide) ?_
    refine g_Vi (i := 22) (As := [.int 0, .int 1, .int 0]) (rest := []) (kD_throwing hA hsD22 0 1 0) calD_throwing cvD_throwing mlD_77 hx hb hml hown hts hB hG hK hS (by decide) hsD22 rfl ⟨by decide, by decide⟩ rfl hl.1 rfl (Nat.le_of_ble_eq_true rfl) dD_cylinder_35 ⟨by decide, by decide⟩ (fun r3 w4 H locs hp5 hG hS => ?_)
    obtain ⟨er7, h6, hfr8⟩ := hp5
    have h9 : w4 23 = .inl (k.2.2, 12, .inl rd) := (hfr8 23 (by omega)).trans hsDP23
    have h10 : w4 24 = .inl (k.1, 12, .inl ma) := (hfr8 24 (by omega)).trans hsDP24
    have h11 : w4 25 = .inl (k.1, 12, .inl mb) := (hfr8 25 (by omega)).trans hsDP25
    have h12 : w4 26 = .inl (k.1, 12, .inl mc) := (hfr8 26 (by omega)).trans hsDP26
    have h13 : w4 27 = .inl (k.1, 72, .inl co) := (hfr8 27 (by omega)).trans hsDP27
    have h14 : w4 28 = .inl (k.1, 12, .inl jn) := (hfr8 28 (by omega)).trans hsDP28
    have h15 : w4 29 = .inl (k.1, 12, .inl ro) := (hfr8 29 (by omega)).trans hsDP29
    have hfr16 : ∀ z, z < 22 ∨ 29 < z → w4 z = w z := fun z hz => (hfr8 z (by omega)).trans (hfr0 z hz)
    rw [er7]
    refine lb_if_eq (tgt := 43) hx hb dD_cylinder_38 (by decide) (fun h9 => absurd (by decide) h9) (fun _ => ?_)
    refine lv_iconst (v := 0) hx hb dD_cylinder_41 (by decide) ?_
    exact g_iret hQ hx hb hr hlk hG hK hS (by decide) (by decide) ⟨by first | rfl | omega | (simp_all; done) | grind, h6, ⟨h9, h10, h11, h12, h13, h14, h15⟩, hfr16⟩ dD_cylinder_42
  · refine lv_iload_n hx hb dD_cylinder_22 rfl (lv_at hl 2 rfl) ?_
    refine g_SiR (As := [.int y]) (rest := [.int 0, .ref (a 22)]) (kD_isSize hA y) calD_isSize cvD_isSize mlD_73 hx hb hml hown hts hB hG hK hS ⟨by decide, by decide⟩ rfl hl.1 rfl (Nat.le_of_ble_eq_true rfl) dD_cylinder_23 ⟨by decide, by decide⟩ (fun H locs hG hS => ?_)
    refine lb_if_ne (tgt := 33) hx hb dD_cylinder_26 (by decide) (fun c18 => ?_) (fun c18 => ?_)
    · exact absurd ⟨by assumption, by assumption⟩ hz
    · refine lv_iconst (v := 1) hx hb dD_cylinder_29 (by decide) ?_
      refine lv_goto (tgt := 34) hx hb dD_cylinder_30 (by decide) ?_
      refine lv_iconst (v := 0) hx hb dD_cylinder_34 (by decide) ?_
      refine g_Vi (i := 22) (As := [.int 0, .int 1, .int 0]) (rest := []) (kD_throwing hA hsD22 0 1 0) calD_throwing cvD_throwing mlD_77 hx hb hml hown hts hB hG hK hS (by decide) hsD22 rfl ⟨by decide, by decide⟩ rfl hl.1 rfl (Nat.le_of_ble_eq_true rfl) dD_cylinder_35 ⟨by decide, by decide⟩ (fun r19 w20 H locs hp21 hG hS => ?_)
      obtain ⟨er23, h22, hfr24⟩ := hp21
      have h25 : w20 23 = .inl (k.2.2, 12, .inl rd) := (hfr24 23 (by omega)).trans hsDP23
      have h26 : w20 24 = .inl (k.1, 12, .inl ma) := (hfr24 24 (by omega)).trans hsDP24
      have h27 : w20 25 = .inl (k.1, 12, .inl mb) := (hfr24 25 (by omega)).trans hsDP25
      have h28 : w20 26 = .inl (k.1, 12, .inl mc) := (hfr24 26 (by omega)).trans hsDP26
      have h29 : w20 27 = .inl (k.1, 72, .inl co) := (hfr24 27 (by omega)).trans hsDP27
      have h30 : w20 28 = .inl (k.1, 12, .inl jn) := (hfr24 28 (by omega)).trans hsDP28
      have h31 : w20 29 = .inl (k.1, 12, .inl ro) := (hfr24 29 (by omega)).trans hsDP29
      have hfr32 : ∀ z, z < 22 ∨ 29 < z → w20 z = w z := fun z hz => (hfr24 z (by omega)).trans (hfr0 z hz)
      rw [er23]
      refine lb_if_eq (tgt := 43) hx hb dD_cylinder_38 (by decide) (fun h9 => absurd (by decide) h9) (fun _ => ?_)
      refine lv_iconst (v := 0) hx hb dD_cylinder_41 (by decide) ?_
      exact g_iret hQ hx hb hr hlk hG hK hS (by decide) (by decide) ⟨by first | rfl | omega | (simp_all; done) | grind, h22, ⟨h25, h26, h27, h28, h29, h30, h31⟩, hfr32⟩ dD_cylinder_42

abbrev rmD_face_k : Room := { frames := 2, cells := 0, slots := 0, locals := 43 }
set_option maxRecDepth 100000 in
set_option maxHeartbeats 4000000 in
theorem kD_face_k {l : Launch} {D : va_G} {k : ClassId × ClassId × ClassId} {a : Nat → Nat} {B0 : Nat} {w : Nat → va_E} (hA : gA B0 a) {th : Int32} {n : Nat} {nr : Nat} {nf : Nat} {bw : Int32} {bd : Int32} {nt : Nat} {rd : Nat → Int32} {ma : Nat → Int32} {mb : Nat → Int32} {mc : Nat → Int32} {co : Nat → Int32} {jn : Nat → Int32} {ro : Nat → Int32} (hsD : sD k a w th n nr nf bw bd nt) (hsDP : sDP k a w rd ma mb mc co jn ro) (j : Nat) (g : Nat) (h : Int32) (hj : j < n) (hn : n ≤ 12) (hg : g < 6) (hf5 : rd j = 0 → rngI (nI g) 0 5) (hf2 : ¬ rd j = 0 → rngI (nI g) 0 2) (hh : rngI h 0 2) : Met l yD_face (tbw yD_face cD_face 5 none) rmD_face_k (gPc D k a B0 w [.ref (a 22), .int (nI j), .int (nI g), .int h]) (va_Qv (fun w1 => (sD k a w1 0 n nr nf bw bd nt) ∧ (sDP k a w1 rd ma mb mc (upd co (6 * j + g) h) jn ro) ∧ ∀ z, z < 22 ∨ 29 < z → w1 z = w z) (gB D k a) (gF B0)) 0 0 (gF B0) := by
  have hsD22 := hsD
  obtain ⟨hsDP23, hsDP24, hsDP25, hsDP26, hsDP27, hsDP28, hsDP29⟩ := hsDP
  refine g_ofW (by decide) rfl (fun p e s m args below meth c Q hQ hx hb hr hlk hml hown hts hB hG hK hS ls hl => ?_)
  have hl : lv_has ls 5 [(0, .ref (a 22)), (1, .int (nI j)), (2, .int (nI g)), (3, .int h)] := hl
  have hown : s.vm.findClass RD = some m.cls := hown
  have hfr0 : ∀ z, z < 22 ∨ 29 < z → w z = w z := fun _ _ => rfl
  refine lv_aload_n hx hb dD_face_0 rfl (lv_at hl 0 rfl) ?_
  refine lv_iload_n hx hb dD_face_1 rfl (lv_at hl 1 rfl) ?_
  refine g_ViR (i := 22) (As := [.int (nI j)]) (rest := []) (kD_isPart hA hsD22 (nI j)) calD_isPart cvD_isPart mlD_85 hx hb hml hown hts hB hG hK hS (by decide) hsD22 rfl ⟨by decide, by decide⟩ rfl hl.1 rfl (Nat.le_of_ble_eq_true rfl) dD_face_2 ⟨by decide, by decide⟩ (fun H locs hG hS => ?_)
  refine lb_if_eq (tgt := 42) hx hb dD_face_5 (by decide) (fun h9 => absurd (rng_part hj (by omega)) h9) (fun _ => ?_)
  refine lv_iload_n hx hb dD_face_8 rfl (lv_at hl 2 rfl) ?_
  refine lv_iconst (v := 0) hx hb dD_face_9 (by decide) ?_
  refine lv_aload_n hx hb dD_face_10 rfl (lv_at hl 0 rfl) ?_
  refine g_get hx hb hts inD hown hK hG 22 (by decide) hsD22 rfl 2 (by decide) lkD_7 rfl dD_face_11 ?_
  refine lv_aload_n hx hb dD_face_14 rfl (lv_at hl 0 rfl) ?_
  refine lv_iload_n hx hb dD_face_15 rfl (lv_at hl 1 rfl) ?_
  refine g_ViR (i := 22) (As := [.int (nI j)]) (rest := [.ref (a 23), .int 0, .int (nI g)]) (kD_isPart hA hsD22 (nI j)) calD_isPart cvD_isPart mlD_85 hx hb hml hown hts hB hG hK hS (by decide) hsD22 rfl ⟨by decide, by decide⟩ rfl hl.1 rfl (Nat.le_of_ble_eq_true rfl) dD_face_16 ⟨by decide, by decide⟩ (fun H locs hG hS => ?_)
  refine lb_if_eq (tgt := 26) hx hb dD_face_19 (by decide) (fun h9 => absurd (rng_part hj (by omega)) h9) (fun _ => ?_)
  refine lv_iload_n hx hb dD_face_22 rfl (lv_at hl 1 rfl) ?_
  refine lv_goto (tgt := 27) hx hb dD_face_23 (by decide) ?_
  refine g_zald hx hb hK hG 23 (by decide) hsDP23 (j := j) (by omega) (by decide) dD_face_27 ?_
  refine lv_if_eq (tgt := 35) hx hb dD_face_28 (by decide) (fun c3 => ?_) (fun c3 => ?_)
  · refine lv_iconst (v := 5) hx hb dD_face_35 (by decide) ?_
    refine g_SiR (As := [.int (nI g), .int 0, .int 5]) (rest := []) (kD_in hA (nI g) 0 5) calD_in cvD_in mlD_66 hx hb hml hown hts hB hG hK hS ⟨by decide, by decide⟩ rfl hl.1 rfl (Nat.le_of_ble_eq_true rfl) dD_face_36 ⟨by decide, by decide⟩ (fun H locs hG hS => ?_)
    refine lb_if_ne (tgt := 46) hx hb dD_face_39 (by decide) (fun _ => ?_) (fun h9 => absurd (hf5 (by assumption)) h9)
    refine lv_iconst (v := 0) hx hb dD_face_46 (by decide) ?_
    refine lv_istore (lv' := [(4, .int 0), (0, .ref (a 22)), (1, .int (nI j)), (2, .int (nI g)), (3, .int h)]) hx hb dD_face_47 hl (by decide) rfl (fun ls hl => ?_)
    refine lv_aload_n hx hb dD_face_49 rfl (lv_at hl 1 rfl) ?_
    refine lv_iload hx hb dD_face_50 (lv_at hl 0 rfl) ?_
    refine lv_iload_n hx hb dD_face_52 rfl (lv_at hl 4 rfl) ?_
    refine lv_iconst (v := 0) hx hb dD_face_53 (by decide) ?_
    refine lv_iconst (v := 2) hx hb dD_face_54 (by decide) ?_
    refine g_SiR (As := [.int h, .int 0, .int 2]) (rest := [.int 0, .ref (a 22)]) (kD_in hA h 0 2) calD_in cvD_in mlD_66 hx hb hml hown hts hB hG hK hS ⟨by decide, by decide⟩ rfl hl.1 rfl (Nat.le_of_ble_eq_true rfl) dD_face_55 ⟨by decide, by decide⟩ (fun H locs hG hS => ?_)
    refine lb_if_ne (tgt := 65) hx hb dD_face_58 (by decide) (fun _ => ?_) (fun h9 => absurd hh h9)
    refine lv_iconst (v := 0) hx hb dD_face_65 (by decide) ?_
    refine lv_iconst (v := 0) hx hb dD_face_66 (by decide) ?_
    refine g_Vi (i := 22) (As := [.int 0, .int 0, .int 0]) (rest := []) (kD_throwing hA hsD22 0 0 0) calD_throwing cvD_throwing mlD_77 hx hb hml hown hts hB hG hK hS (by decide) hsD22 rfl ⟨by decide, by decide⟩ rfl hl.1 rfl (Nat.le_of_ble_eq_true rfl) dD_face_67 ⟨by decide, by decide⟩ (fun r6 w7 H locs hp8 hG hS => ?_)
    obtain ⟨er10, h9, hfr11⟩ := hp8
    have h12 : w7 23 = .inl (k.2.2, 12, .inl rd) := (hfr11 23 (by omega)).trans hsDP23
    have h13 : w7 24 = .inl (k.1, 12, .inl ma) := (hfr11 24 (by omega)).trans hsDP24
    have h14 : w7 25 = .inl (k.1, 12, .inl mb) := (hfr11 25 (by omega)).trans hsDP25
    have h15 : w7 26 = .inl (k.1, 12, .inl mc) := (hfr11 26 (by omega)).trans hsDP26
    have h16 : w7 27 = .inl (k.1, 72, .inl co) := (hfr11 27 (by omega)).trans hsDP27
    have h17 : w7 28 = .inl (k.1, 12, .inl jn) := (hfr11 28 (by omega)).trans hsDP28
    have h18 : w7 29 = .inl (k.1, 12, .inl ro) := (hfr11 29 (by omega)).trans hsDP29
    have hfr19 : ∀ z, z < 22 ∨ 29 < z → w7 z = w z := fun z hz => (hfr11 z (by omega)).trans (hfr0 z hz)
    rw [er10]
    refine lb_if_eq (tgt := 74) hx hb dD_face_70 (by decide) (fun _ => ?_) (fun h9 => absurd h9 (by decide))
    refine lv_aload_n hx hb dD_face_74 rfl (lv_at hl 1 rfl) ?_
    refine g_get hx hb hts inD hown hK hG 22 (by decide) h9 rfl 6 (by decide) lkD_23 rfl dD_face_75 ?_
    refine lv_bipush (v := 6) hx hb dD_face_78 (by decide) ?_
    refine lv_iload_n hx hb dD_face_80 rfl (lv_at hl 2 rfl) ?_
    refine ln_imul (x := 6) (y := j) hx hb dD_face_81 ?_
    refine lv_iload_n hx hb dD_face_82 rfl (lv_at hl 3 rfl) ?_
    refine ln_iadd (x := 6 * j) (y := g) hx hb dD_face_83 ?_
    refine lv_iload_n hx hb dD_face_84 rfl (lv_at hl 4 rfl) ?_
    refine g_iast hx hb hK hA hG hS 27 (by decide) h16 (j := (6 * j) + g) (by omega) (by decide) dD_face_85 (fun H locs hG hS => ?_)
    obtain ⟨w21, hw22⟩ : ∃ zz9, zz9 = va_up w7 27 (.inl (k.1, 72, .inl (upd co ((6 * j) + g) h))) := ⟨_, rfl⟩
    replace hG : gW D a w21 H := by rw [hw22]; exact hG
    have h23 : w21 22 = .inr (5, [.int (thrI 0 0 0), .int (nI n), .ref (a 23), .ref (a 24), .ref (a 25), .ref (a 26), .ref (a 27), .ref (a 28), .ref (a 29), .int (nI nr), .ref (a 30), .ref (a 31), .int (nI nf), .ref (a 32), .ref (a 33), .int bw, .int bd, .int (nI nt), .ref (a 34), .ref (a 35), .ref (a 36), .ref (a 37)]) := by rw [hw22]; exact h9
    have h24 : w21 23 = .inl (k.2.2, 12, .inl rd) := by rw [hw22]; exact h12
    have h25 : w21 24 = .inl (k.1, 12, .inl ma) := by rw [hw22]; exact h13
    have h26 : w21 25 = .inl (k.1, 12, .inl mb) := by rw [hw22]; exact h14
    have h27 : w21 26 = .inl (k.1, 12, .inl mc) := by rw [hw22]; exact h15
    have h28 : w21 27 = .inl (k.1, 72, .inl (upd co ((6 * j) + g) h)) := by rw [hw22]; rfl
    have h29 : w21 28 = .inl (k.1, 12, .inl jn) := by rw [hw22]; exact h17
    have h30 : w21 29 = .inl (k.1, 12, .inl ro) := by rw [hw22]; exact h18
    have hfr31 : ∀ z, z < 22 ∨ 29 < z → w21 z = w z := fun z hz => by rw [hw22]; exact (va_up_ne _ _ (by omega)).trans (hfr19 z hz)
    exact g_vret hQ hx hb hr hlk hG hK hS (by decide) (by decide) ⟨h23, ⟨h24, h25, h26, h27, h28, h29, h30⟩, hfr31⟩ dD_face_86
  · refine lv_iconst (v := 2) hx hb dD_face_31 (by decide) ?_
    refine lv_goto (tgt := 36) hx hb dD_face_32 (by decide) ?_
    refine g_SiR (As := [.int (nI g), .int 0, .int 2]) (rest := []) (kD_in hA (nI g) 0 2) calD_in cvD_in mlD_66 hx hb hml hown hts hB hG hK hS ⟨by decide, by decide⟩ rfl hl.1 rfl (Nat.le_of_ble_eq_true rfl) dD_face_36 ⟨by decide, by decide⟩ (fun H locs hG hS => ?_)
    refine lb_if_ne (tgt := 46) hx hb dD_face_39 (by decide) (fun _ => ?_) (fun h9 => absurd (hf2 (by assumption)) h9)
    refine lv_iconst (v := 0) hx hb dD_face_46 (by decide) ?_
    refine lv_istore (lv' := [(4, .int 0), (0, .ref (a 22)), (1, .int (nI j)), (2, .int (nI g)), (3, .int h)]) hx hb dD_face_47 hl (by decide) rfl (fun ls hl => ?_)
    refine lv_aload_n hx hb dD_face_49 rfl (lv_at hl 1 rfl) ?_
    refine lv_iload hx hb dD_face_50 (lv_at hl 0 rfl) ?_
    refine lv_iload_n hx hb dD_face_52 rfl (lv_at hl 4 rfl) ?_
    refine lv_iconst (v := 0) hx hb dD_face_53 (by decide) ?_
    refine lv_iconst (v := 2) hx hb dD_face_54 (by decide) ?_
    refine g_SiR (As := [.int h, .int 0, .int 2]) (rest := [.int 0, .ref (a 22)]) (kD_in hA h 0 2) calD_in cvD_in mlD_66 hx hb hml hown hts hB hG hK hS ⟨by decide, by decide⟩ rfl hl.1 rfl (Nat.le_of_ble_eq_true rfl) dD_face_55 ⟨by decide, by decide⟩ (fun H locs hG hS => ?_)
    refine lb_if_ne (tgt := 65) hx hb dD_face_58 (by decide) (fun _ => ?_) (fun h9 => absurd hh h9)
    refine lv_iconst (v := 0) hx hb dD_face_65 (by decide) ?_
    refine lv_iconst (v := 0) hx hb dD_face_66 (by decide) ?_
    refine g_Vi (i := 22) (As := [.int 0, .int 0, .int 0]) (rest := []) (kD_throwing hA hsD22 0 0 0) calD_throwing cvD_throwing mlD_77 hx hb hml hown hts hB hG hK hS (by decide) hsD22 rfl ⟨by decide, by decide⟩ rfl hl.1 rfl (Nat.le_of_ble_eq_true rfl) dD_face_67 ⟨by decide, by decide⟩ (fun r34 w35 H locs hp36 hG hS => ?_)
    obtain ⟨er38, h37, hfr39⟩ := hp36
    have h40 : w35 23 = .inl (k.2.2, 12, .inl rd) := (hfr39 23 (by omega)).trans hsDP23
    have h41 : w35 24 = .inl (k.1, 12, .inl ma) := (hfr39 24 (by omega)).trans hsDP24
    have h42 : w35 25 = .inl (k.1, 12, .inl mb) := (hfr39 25 (by omega)).trans hsDP25
    have h43 : w35 26 = .inl (k.1, 12, .inl mc) := (hfr39 26 (by omega)).trans hsDP26
    have h44 : w35 27 = .inl (k.1, 72, .inl co) := (hfr39 27 (by omega)).trans hsDP27
    have h45 : w35 28 = .inl (k.1, 12, .inl jn) := (hfr39 28 (by omega)).trans hsDP28
    have h46 : w35 29 = .inl (k.1, 12, .inl ro) := (hfr39 29 (by omega)).trans hsDP29
    have hfr47 : ∀ z, z < 22 ∨ 29 < z → w35 z = w z := fun z hz => (hfr39 z (by omega)).trans (hfr0 z hz)
    rw [er38]
    refine lb_if_eq (tgt := 74) hx hb dD_face_70 (by decide) (fun _ => ?_) (fun h9 => absurd h9 (by decide))
    refine lv_aload_n hx hb dD_face_74 rfl (lv_at hl 1 rfl) ?_
    refine g_get hx hb hts inD hown hK hG 22 (by decide) h37 rfl 6 (by decide) lkD_23 rfl dD_face_75 ?_
    refine lv_bipush (v := 6) hx hb dD_face_78 (by decide) ?_
    refine lv_iload_n hx hb dD_face_80 rfl (lv_at hl 2 rfl) ?_
    refine ln_imul (x := 6) (y := j) hx hb dD_face_81 ?_
    refine lv_iload_n hx hb dD_face_82 rfl (lv_at hl 3 rfl) ?_
    refine ln_iadd (x := 6 * j) (y := g) hx hb dD_face_83 ?_
    refine lv_iload_n hx hb dD_face_84 rfl (lv_at hl 4 rfl) ?_
    refine g_iast hx hb hK hA hG hS 27 (by decide) h44 (j := (6 * j) + g) (by omega) (by decide) dD_face_85 (fun H locs hG hS => ?_)
    obtain ⟨w49, hw50⟩ : ∃ zz9, zz9 = va_up w35 27 (.inl (k.1, 72, .inl (upd co ((6 * j) + g) h))) := ⟨_, rfl⟩
    replace hG : gW D a w49 H := by rw [hw50]; exact hG
    have h51 : w49 22 = .inr (5, [.int (thrI 0 0 0), .int (nI n), .ref (a 23), .ref (a 24), .ref (a 25), .ref (a 26), .ref (a 27), .ref (a 28), .ref (a 29), .int (nI nr), .ref (a 30), .ref (a 31), .int (nI nf), .ref (a 32), .ref (a 33), .int bw, .int bd, .int (nI nt), .ref (a 34), .ref (a 35), .ref (a 36), .ref (a 37)]) := by rw [hw50]; exact h37
    have h52 : w49 23 = .inl (k.2.2, 12, .inl rd) := by rw [hw50]; exact h40
    have h53 : w49 24 = .inl (k.1, 12, .inl ma) := by rw [hw50]; exact h41
    have h54 : w49 25 = .inl (k.1, 12, .inl mb) := by rw [hw50]; exact h42
    have h55 : w49 26 = .inl (k.1, 12, .inl mc) := by rw [hw50]; exact h43
    have h56 : w49 27 = .inl (k.1, 72, .inl (upd co ((6 * j) + g) h)) := by rw [hw50]; rfl
    have h57 : w49 28 = .inl (k.1, 12, .inl jn) := by rw [hw50]; exact h45
    have h58 : w49 29 = .inl (k.1, 12, .inl ro) := by rw [hw50]; exact h46
    have hfr59 : ∀ z, z < 22 ∨ 29 < z → w49 z = w z := fun z hz => by rw [hw50]; exact (va_up_ne _ _ (by omega)).trans (hfr47 z hz)
    exact g_vret hQ hx hb hr hlk hG hK hS (by decide) (by decide) ⟨h51, ⟨h52, h53, h54, h55, h56, h57, h58⟩, hfr59⟩ dD_face_86

abbrev rmD_face_p : Room := { frames := 2, cells := 0, slots := 0, locals := 43 }
set_option maxRecDepth 100000 in
set_option maxHeartbeats 4000000 in
theorem kD_face_p {l : Launch} {D : va_G} {k : ClassId × ClassId × ClassId} {a : Nat → Nat} {B0 : Nat} {w : Nat → va_E} (hA : gA B0 a) {th : Int32} {n : Nat} {nr : Nat} {nf : Nat} {bw : Int32} {bd : Int32} {nt : Nat} {rd : Nat → Int32} {ma : Nat → Int32} {mb : Nat → Int32} {mc : Nat → Int32} {co : Nat → Int32} {jn : Nat → Int32} {ro : Nat → Int32} (hsD : sD k a w th n nr nf bw bd nt) (hsDP : sDP k a w rd ma mb mc co jn ro) (q : Int32) (f : Int32) (h : Int32) (hq : ¬ rngI q 0 (nI n - 1)) : Met l yD_face (tbw yD_face cD_face 5 none) rmD_face_p (gPc D k a B0 w [.ref (a 22), .int q, .int f, .int h]) (va_Qv (fun w1 => (sD k a w1 1 n nr nf bw bd nt) ∧ (sDP k a w1 rd ma mb mc co jn ro) ∧ ∀ z, z < 22 ∨ 29 < z → w1 z = w z) (gB D k a) (gF B0)) 0 0 (gF B0) := by
  have hsD22 := hsD
  obtain ⟨hsDP23, hsDP24, hsDP25, hsDP26, hsDP27, hsDP28, hsDP29⟩ := hsDP
  refine g_ofW (by decide) rfl (fun p e s m args below meth c Q hQ hx hb hr hlk hml hown hts hB hG hK hS ls hl => ?_)
  have hl : lv_has ls 5 [(0, .ref (a 22)), (1, .int q), (2, .int f), (3, .int h)] := hl
  have hown : s.vm.findClass RD = some m.cls := hown
  have hfr0 : ∀ z, z < 22 ∨ 29 < z → w z = w z := fun _ _ => rfl
  refine lv_aload_n hx hb dD_face_0 rfl (lv_at hl 0 rfl) ?_
  refine lv_iload_n hx hb dD_face_1 rfl (lv_at hl 1 rfl) ?_
  refine g_ViR (i := 22) (As := [.int q]) (rest := []) (kD_isPart hA hsD22 q) calD_isPart cvD_isPart mlD_85 hx hb hml hown hts hB hG hK hS (by decide) hsD22 rfl ⟨by decide, by decide⟩ rfl hl.1 rfl (Nat.le_of_ble_eq_true rfl) dD_face_2 ⟨by decide, by decide⟩ (fun H locs hG hS => ?_)
  refine lb_if_eq (tgt := 42) hx hb dD_face_5 (by decide) (fun _ => ?_) (fun h9 => absurd h9 hq)
  refine lv_iconst (v := 1) hx hb dD_face_42 (by decide) ?_
  refine lv_goto (tgt := 47) hx hb dD_face_43 (by decide) ?_
  refine lv_istore (lv' := [(4, .int 1), (0, .ref (a 22)), (1, .int q), (2, .int f), (3, .int h)]) hx hb dD_face_47 hl (by decide) rfl (fun ls hl => ?_)
  refine lv_aload_n hx hb dD_face_49 rfl (lv_at hl 1 rfl) ?_
  refine lv_iload hx hb dD_face_50 (lv_at hl 0 rfl) ?_
  refine lv_iload_n hx hb dD_face_52 rfl (lv_at hl 4 rfl) ?_
  refine lv_iconst (v := 0) hx hb dD_face_53 (by decide) ?_
  refine lv_iconst (v := 2) hx hb dD_face_54 (by decide) ?_
  refine g_SiR (As := [.int h, .int 0, .int 2]) (rest := [.int 1, .ref (a 22)]) (kD_in hA h 0 2) calD_in cvD_in mlD_66 hx hb hml hown hts hB hG hK hS ⟨by decide, by decide⟩ rfl hl.1 rfl (Nat.le_of_ble_eq_true rfl) dD_face_55 ⟨by decide, by decide⟩ (fun H locs hG hS => ?_)
  refine lb_if_ne (tgt := 65) hx hb dD_face_58 (by decide) (fun c2 => ?_) (fun c2 => ?_)
  · refine lv_iconst (v := 0) hx hb dD_face_65 (by decide) ?_
    refine lv_iconst (v := 0) hx hb dD_face_66 (by decide) ?_
    refine g_Vi (i := 22) (As := [.int 1, .int 0, .int 0]) (rest := []) (kD_throwing hA hsD22 1 0 0) calD_throwing cvD_throwing mlD_77 hx hb hml hown hts hB hG hK hS (by decide) hsD22 rfl ⟨by decide, by decide⟩ rfl hl.1 rfl (Nat.le_of_ble_eq_true rfl) dD_face_67 ⟨by decide, by decide⟩ (fun r3 w4 H locs hp5 hG hS => ?_)
    obtain ⟨er7, h6, hfr8⟩ := hp5
    have h9 : w4 23 = .inl (k.2.2, 12, .inl rd) := (hfr8 23 (by omega)).trans hsDP23
    have h10 : w4 24 = .inl (k.1, 12, .inl ma) := (hfr8 24 (by omega)).trans hsDP24
    have h11 : w4 25 = .inl (k.1, 12, .inl mb) := (hfr8 25 (by omega)).trans hsDP25
    have h12 : w4 26 = .inl (k.1, 12, .inl mc) := (hfr8 26 (by omega)).trans hsDP26
    have h13 : w4 27 = .inl (k.1, 72, .inl co) := (hfr8 27 (by omega)).trans hsDP27
    have h14 : w4 28 = .inl (k.1, 12, .inl jn) := (hfr8 28 (by omega)).trans hsDP28
    have h15 : w4 29 = .inl (k.1, 12, .inl ro) := (hfr8 29 (by omega)).trans hsDP29
    have hfr16 : ∀ z, z < 22 ∨ 29 < z → w4 z = w z := fun z hz => (hfr8 z (by omega)).trans (hfr0 z hz)
    rw [er7]
    refine lb_if_eq (tgt := 74) hx hb dD_face_70 (by decide) (fun h9 => absurd (by decide) h9) (fun _ => ?_)
    exact g_vret hQ hx hb hr hlk hG hK hS (by decide) (by decide) ⟨h6, ⟨h9, h10, h11, h12, h13, h14, h15⟩, hfr16⟩ dD_face_73
  · refine lv_iconst (v := 1) hx hb dD_face_61 (by decide) ?_
    refine lv_goto (tgt := 66) hx hb dD_face_62 (by decide) ?_
    refine lv_iconst (v := 0) hx hb dD_face_66 (by decide) ?_
    refine g_Vi (i := 22) (As := [.int 1, .int 1, .int 0]) (rest := []) (kD_throwing hA hsD22 1 1 0) calD_throwing cvD_throwing mlD_77 hx hb hml hown hts hB hG hK hS (by decide) hsD22 rfl ⟨by decide, by decide⟩ rfl hl.1 rfl (Nat.le_of_ble_eq_true rfl) dD_face_67 ⟨by decide, by decide⟩ (fun r18 w19 H locs hp20 hG hS => ?_)
    obtain ⟨er22, h21, hfr23⟩ := hp20
    have h24 : w19 23 = .inl (k.2.2, 12, .inl rd) := (hfr23 23 (by omega)).trans hsDP23
    have h25 : w19 24 = .inl (k.1, 12, .inl ma) := (hfr23 24 (by omega)).trans hsDP24
    have h26 : w19 25 = .inl (k.1, 12, .inl mb) := (hfr23 25 (by omega)).trans hsDP25
    have h27 : w19 26 = .inl (k.1, 12, .inl mc) := (hfr23 26 (by omega)).trans hsDP26
    have h28 : w19 27 = .inl (k.1, 72, .inl co) := (hfr23 27 (by omega)).trans hsDP27
    have h29 : w19 28 = .inl (k.1, 12, .inl jn) := (hfr23 28 (by omega)).trans hsDP28
    have h30 : w19 29 = .inl (k.1, 12, .inl ro) := (hfr23 29 (by omega)).trans hsDP29
    have hfr31 : ∀ z, z < 22 ∨ 29 < z → w19 z = w z := fun z hz => (hfr23 z (by omega)).trans (hfr0 z hz)
    rw [er22]
    refine lb_if_eq (tgt := 74) hx hb dD_face_70 (by decide) (fun h9 => absurd (by decide) h9) (fun _ => ?_)
    exact g_vret hQ hx hb hr hlk hG hK hS (by decide) (by decide) ⟨h21, ⟨h24, h25, h26, h27, h28, h29, h30⟩, hfr31⟩ dD_face_73

abbrev rmD_face_f : Room := { frames := 2, cells := 0, slots := 0, locals := 43 }
set_option maxRecDepth 100000 in
set_option maxHeartbeats 4000000 in
theorem kD_face_f {l : Launch} {D : va_G} {k : ClassId × ClassId × ClassId} {a : Nat → Nat} {B0 : Nat} {w : Nat → va_E} (hA : gA B0 a) {th : Int32} {n : Nat} {nr : Nat} {nf : Nat} {bw : Int32} {bd : Int32} {nt : Nat} {rd : Nat → Int32} {ma : Nat → Int32} {mb : Nat → Int32} {mc : Nat → Int32} {co : Nat → Int32} {jn : Nat → Int32} {ro : Nat → Int32} (hsD : sD k a w th n nr nf bw bd nt) (hsDP : sDP k a w rd ma mb mc co jn ro) (j : Nat) (f : Int32) (h : Int32) (hj : j < n) (hn : n ≤ 12) (hf5 : rd j = 0 → ¬ rngI f 0 5) (hf2 : ¬ rd j = 0 → ¬ rngI f 0 2) : Met l yD_face (tbw yD_face cD_face 5 none) rmD_face_f (gPc D k a B0 w [.ref (a 22), .int (nI j), .int f, .int h]) (va_Qv (fun w1 => (sD k a w1 1 n nr nf bw bd nt) ∧ (sDP k a w1 rd ma mb mc co jn ro) ∧ ∀ z, z < 22 ∨ 29 < z → w1 z = w z) (gB D k a) (gF B0)) 0 0 (gF B0) := by
  have hsD22 := hsD
  obtain ⟨hsDP23, hsDP24, hsDP25, hsDP26, hsDP27, hsDP28, hsDP29⟩ := hsDP
  refine g_ofW (by decide) rfl (fun p e s m args below meth c Q hQ hx hb hr hlk hml hown hts hB hG hK hS ls hl => ?_)
  have hl : lv_has ls 5 [(0, .ref (a 22)), (1, .int (nI j)), (2, .int f), (3, .int h)] := hl
  have hown : s.vm.findClass RD = some m.cls := hown
  have hfr0 : ∀ z, z < 22 ∨ 29 < z → w z = w z := fun _ _ => rfl
  refine lv_aload_n hx hb dD_face_0 rfl (lv_at hl 0 rfl) ?_
  refine lv_iload_n hx hb dD_face_1 rfl (lv_at hl 1 rfl) ?_
  refine g_ViR (i := 22) (As := [.int (nI j)]) (rest := []) (kD_isPart hA hsD22 (nI j)) calD_isPart cvD_isPart mlD_85 hx hb hml hown hts hB hG hK hS (by decide) hsD22 rfl ⟨by decide, by decide⟩ rfl hl.1 rfl (Nat.le_of_ble_eq_true rfl) dD_face_2 ⟨by decide, by decide⟩ (fun H locs hG hS => ?_)
  refine lb_if_eq (tgt := 42) hx hb dD_face_5 (by decide) (fun h9 => absurd (rng_part hj (by omega)) h9) (fun _ => ?_)
  refine lv_iload_n hx hb dD_face_8 rfl (lv_at hl 2 rfl) ?_
  refine lv_iconst (v := 0) hx hb dD_face_9 (by decide) ?_
  refine lv_aload_n hx hb dD_face_10 rfl (lv_at hl 0 rfl) ?_
  refine g_get hx hb hts inD hown hK hG 22 (by decide) hsD22 rfl 2 (by decide) lkD_7 rfl dD_face_11 ?_
  refine lv_aload_n hx hb dD_face_14 rfl (lv_at hl 0 rfl) ?_
  refine lv_iload_n hx hb dD_face_15 rfl (lv_at hl 1 rfl) ?_
  refine g_ViR (i := 22) (As := [.int (nI j)]) (rest := [.ref (a 23), .int 0, .int f]) (kD_isPart hA hsD22 (nI j)) calD_isPart cvD_isPart mlD_85 hx hb hml hown hts hB hG hK hS (by decide) hsD22 rfl ⟨by decide, by decide⟩ rfl hl.1 rfl (Nat.le_of_ble_eq_true rfl) dD_face_16 ⟨by decide, by decide⟩ (fun H locs hG hS => ?_)
  refine lb_if_eq (tgt := 26) hx hb dD_face_19 (by decide) (fun h9 => absurd (rng_part hj (by omega)) h9) (fun _ => ?_)
  refine lv_iload_n hx hb dD_face_22 rfl (lv_at hl 1 rfl) ?_
  refine lv_goto (tgt := 27) hx hb dD_face_23 (by decide) ?_
  refine g_zald hx hb hK hG 23 (by decide) hsDP23 (j := j) (by omega) (by decide) dD_face_27 ?_
  refine lv_if_eq (tgt := 35) hx hb dD_face_28 (by decide) (fun c3 => ?_) (fun c3 => ?_)
  · refine lv_iconst (v := 5) hx hb dD_face_35 (by decide) ?_
    refine g_SiR (As := [.int f, .int 0, .int 5]) (rest := []) (kD_in hA f 0 5) calD_in cvD_in mlD_66 hx hb hml hown hts hB hG hK hS ⟨by decide, by decide⟩ rfl hl.1 rfl (Nat.le_of_ble_eq_true rfl) dD_face_36 ⟨by decide, by decide⟩ (fun H locs hG hS => ?_)
    refine lb_if_ne (tgt := 46) hx hb dD_face_39 (by decide) (fun h9 => absurd h9 (hf5 (by assumption))) (fun _ => ?_)
    refine lv_iconst (v := 1) hx hb dD_face_42 (by decide) ?_
    refine lv_goto (tgt := 47) hx hb dD_face_43 (by decide) ?_
    refine lv_istore (lv' := [(4, .int 1), (0, .ref (a 22)), (1, .int (nI j)), (2, .int f), (3, .int h)]) hx hb dD_face_47 hl (by decide) rfl (fun ls hl => ?_)
    refine lv_aload_n hx hb dD_face_49 rfl (lv_at hl 1 rfl) ?_
    refine lv_iload hx hb dD_face_50 (lv_at hl 0 rfl) ?_
    refine lv_iload_n hx hb dD_face_52 rfl (lv_at hl 4 rfl) ?_
    refine lv_iconst (v := 0) hx hb dD_face_53 (by decide) ?_
    refine lv_iconst (v := 2) hx hb dD_face_54 (by decide) ?_
    refine g_SiR (As := [.int h, .int 0, .int 2]) (rest := [.int 1, .ref (a 22)]) (kD_in hA h 0 2) calD_in cvD_in mlD_66 hx hb hml hown hts hB hG hK hS ⟨by decide, by decide⟩ rfl hl.1 rfl (Nat.le_of_ble_eq_true rfl) dD_face_55 ⟨by decide, by decide⟩ (fun H locs hG hS => ?_)
    refine lb_if_ne (tgt := 65) hx hb dD_face_58 (by decide) (fun c5 => ?_) (fun c5 => ?_)
    · refine lv_iconst (v := 0) hx hb dD_face_65 (by decide) ?_
      refine lv_iconst (v := 0) hx hb dD_face_66 (by decide) ?_
      refine g_Vi (i := 22) (As := [.int 1, .int 0, .int 0]) (rest := []) (kD_throwing hA hsD22 1 0 0) calD_throwing cvD_throwing mlD_77 hx hb hml hown hts hB hG hK hS (by decide) hsD22 rfl ⟨by decide, by decide⟩ rfl hl.1 rfl (Nat.le_of_ble_eq_true rfl) dD_face_67 ⟨by decide, by decide⟩ (fun r6 w7 H locs hp8 hG hS => ?_)
      obtain ⟨er10, h9, hfr11⟩ := hp8
      have h12 : w7 23 = .inl (k.2.2, 12, .inl rd) := (hfr11 23 (by omega)).trans hsDP23
      have h13 : w7 24 = .inl (k.1, 12, .inl ma) := (hfr11 24 (by omega)).trans hsDP24
      have h14 : w7 25 = .inl (k.1, 12, .inl mb) := (hfr11 25 (by omega)).trans hsDP25
      have h15 : w7 26 = .inl (k.1, 12, .inl mc) := (hfr11 26 (by omega)).trans hsDP26
      have h16 : w7 27 = .inl (k.1, 72, .inl co) := (hfr11 27 (by omega)).trans hsDP27
      have h17 : w7 28 = .inl (k.1, 12, .inl jn) := (hfr11 28 (by omega)).trans hsDP28
      have h18 : w7 29 = .inl (k.1, 12, .inl ro) := (hfr11 29 (by omega)).trans hsDP29
      have hfr19 : ∀ z, z < 22 ∨ 29 < z → w7 z = w z := fun z hz => (hfr11 z (by omega)).trans (hfr0 z hz)
      rw [er10]
      refine lb_if_eq (tgt := 74) hx hb dD_face_70 (by decide) (fun h9 => absurd (by decide) h9) (fun _ => ?_)
      exact g_vret hQ hx hb hr hlk hG hK hS (by decide) (by decide) ⟨h9, ⟨h12, h13, h14, h15, h16, h17, h18⟩, hfr19⟩ dD_face_73
    · refine lv_iconst (v := 1) hx hb dD_face_61 (by decide) ?_
      refine lv_goto (tgt := 66) hx hb dD_face_62 (by decide) ?_
      refine lv_iconst (v := 0) hx hb dD_face_66 (by decide) ?_
      refine g_Vi (i := 22) (As := [.int 1, .int 1, .int 0]) (rest := []) (kD_throwing hA hsD22 1 1 0) calD_throwing cvD_throwing mlD_77 hx hb hml hown hts hB hG hK hS (by decide) hsD22 rfl ⟨by decide, by decide⟩ rfl hl.1 rfl (Nat.le_of_ble_eq_true rfl) dD_face_67 ⟨by decide, by decide⟩ (fun r21 w22 H locs hp23 hG hS => ?_)
      obtain ⟨er25, h24, hfr26⟩ := hp23
      have h27 : w22 23 = .inl (k.2.2, 12, .inl rd) := (hfr26 23 (by omega)).trans hsDP23
      have h28 : w22 24 = .inl (k.1, 12, .inl ma) := (hfr26 24 (by omega)).trans hsDP24
      have h29 : w22 25 = .inl (k.1, 12, .inl mb) := (hfr26 25 (by omega)).trans hsDP25
      have h30 : w22 26 = .inl (k.1, 12, .inl mc) := (hfr26 26 (by omega)).trans hsDP26
      have h31 : w22 27 = .inl (k.1, 72, .inl co) := (hfr26 27 (by omega)).trans hsDP27
      have h32 : w22 28 = .inl (k.1, 12, .inl jn) := (hfr26 28 (by omega)).trans hsDP28
      have h33 : w22 29 = .inl (k.1, 12, .inl ro) := (hfr26 29 (by omega)).trans hsDP29
      have hfr34 : ∀ z, z < 22 ∨ 29 < z → w22 z = w z := fun z hz => (hfr26 z (by omega)).trans (hfr0 z hz)
      rw [er25]
      refine lb_if_eq (tgt := 74) hx hb dD_face_70 (by decide) (fun h9 => absurd (by decide) h9) (fun _ => ?_)
      exact g_vret hQ hx hb hr hlk hG hK hS (by decide) (by decide) ⟨h24, ⟨h27, h28, h29, h30, h31, h32, h33⟩, hfr34⟩ dD_face_73
  · refine lv_iconst (v := 2) hx hb dD_face_31 (by decide) ?_
    refine lv_goto (tgt := 36) hx hb dD_face_32 (by decide) ?_
    refine g_SiR (As := [.int f, .int 0, .int 2]) (rest := []) (kD_in hA f 0 2) calD_in cvD_in mlD_66 hx hb hml hown hts hB hG hK hS ⟨by decide, by decide⟩ rfl hl.1 rfl (Nat.le_of_ble_eq_true rfl) dD_face_36 ⟨by decide, by decide⟩ (fun H locs hG hS => ?_)
    refine lb_if_ne (tgt := 46) hx hb dD_face_39 (by decide) (fun h9 => absurd h9 (hf2 (by assumption))) (fun _ => ?_)
    refine lv_iconst (v := 1) hx hb dD_face_42 (by decide) ?_
    refine lv_goto (tgt := 47) hx hb dD_face_43 (by decide) ?_
    refine lv_istore (lv' := [(4, .int 1), (0, .ref (a 22)), (1, .int (nI j)), (2, .int f), (3, .int h)]) hx hb dD_face_47 hl (by decide) rfl (fun ls hl => ?_)
    refine lv_aload_n hx hb dD_face_49 rfl (lv_at hl 1 rfl) ?_
    refine lv_iload hx hb dD_face_50 (lv_at hl 0 rfl) ?_
    refine lv_iload_n hx hb dD_face_52 rfl (lv_at hl 4 rfl) ?_
    refine lv_iconst (v := 0) hx hb dD_face_53 (by decide) ?_
    refine lv_iconst (v := 2) hx hb dD_face_54 (by decide) ?_
    refine g_SiR (As := [.int h, .int 0, .int 2]) (rest := [.int 1, .ref (a 22)]) (kD_in hA h 0 2) calD_in cvD_in mlD_66 hx hb hml hown hts hB hG hK hS ⟨by decide, by decide⟩ rfl hl.1 rfl (Nat.le_of_ble_eq_true rfl) dD_face_55 ⟨by decide, by decide⟩ (fun H locs hG hS => ?_)
    refine lb_if_ne (tgt := 65) hx hb dD_face_58 (by decide) (fun c37 => ?_) (fun c37 => ?_)
    · refine lv_iconst (v := 0) hx hb dD_face_65 (by decide) ?_
      refine lv_iconst (v := 0) hx hb dD_face_66 (by decide) ?_
      refine g_Vi (i := 22) (As := [.int 1, .int 0, .int 0]) (rest := []) (kD_throwing hA hsD22 1 0 0) calD_throwing cvD_throwing mlD_77 hx hb hml hown hts hB hG hK hS (by decide) hsD22 rfl ⟨by decide, by decide⟩ rfl hl.1 rfl (Nat.le_of_ble_eq_true rfl) dD_face_67 ⟨by decide, by decide⟩ (fun r38 w39 H locs hp40 hG hS => ?_)
      obtain ⟨er42, h41, hfr43⟩ := hp40
      have h44 : w39 23 = .inl (k.2.2, 12, .inl rd) := (hfr43 23 (by omega)).trans hsDP23
      have h45 : w39 24 = .inl (k.1, 12, .inl ma) := (hfr43 24 (by omega)).trans hsDP24
      have h46 : w39 25 = .inl (k.1, 12, .inl mb) := (hfr43 25 (by omega)).trans hsDP25
      have h47 : w39 26 = .inl (k.1, 12, .inl mc) := (hfr43 26 (by omega)).trans hsDP26
      have h48 : w39 27 = .inl (k.1, 72, .inl co) := (hfr43 27 (by omega)).trans hsDP27
      have h49 : w39 28 = .inl (k.1, 12, .inl jn) := (hfr43 28 (by omega)).trans hsDP28
      have h50 : w39 29 = .inl (k.1, 12, .inl ro) := (hfr43 29 (by omega)).trans hsDP29
      have hfr51 : ∀ z, z < 22 ∨ 29 < z → w39 z = w z := fun z hz => (hfr43 z (by omega)).trans (hfr0 z hz)
      rw [er42]
      refine lb_if_eq (tgt := 74) hx hb dD_face_70 (by decide) (fun h9 => absurd (by decide) h9) (fun _ => ?_)
      exact g_vret hQ hx hb hr hlk hG hK hS (by decide) (by decide) ⟨h41, ⟨h44, h45, h46, h47, h48, h49, h50⟩, hfr51⟩ dD_face_73
    · refine lv_iconst (v := 1) hx hb dD_face_61 (by decide) ?_
      refine lv_goto (tgt := 66) hx hb dD_face_62 (by decide) ?_
      refine lv_iconst (v := 0) hx hb dD_face_66 (by decide) ?_
      refine g_Vi (i := 22) (As := [.int 1, .int 1, .int 0]) (rest := []) (kD_throwing hA hsD22 1 1 0) calD_throwing cvD_throwing mlD_77 hx hb hml hown hts hB hG hK hS (by decide) hsD22 rfl ⟨by decide, by decide⟩ rfl hl.1 rfl (Nat.le_of_ble_eq_true rfl) dD_face_67 ⟨by decide, by decide⟩ (fun r53 w54 H locs hp55 hG hS => ?_)
      obtain ⟨er57, h56, hfr58⟩ := hp55
      have h59 : w54 23 = .inl (k.2.2, 12, .inl rd) := (hfr58 23 (by omega)).trans hsDP23
      have h60 : w54 24 = .inl (k.1, 12, .inl ma) := (hfr58 24 (by omega)).trans hsDP24
      have h61 : w54 25 = .inl (k.1, 12, .inl mb) := (hfr58 25 (by omega)).trans hsDP25
      have h62 : w54 26 = .inl (k.1, 12, .inl mc) := (hfr58 26 (by omega)).trans hsDP26
      have h63 : w54 27 = .inl (k.1, 72, .inl co) := (hfr58 27 (by omega)).trans hsDP27
      have h64 : w54 28 = .inl (k.1, 12, .inl jn) := (hfr58 28 (by omega)).trans hsDP28
      have h65 : w54 29 = .inl (k.1, 12, .inl ro) := (hfr58 29 (by omega)).trans hsDP29
      have hfr66 : ∀ z, z < 22 ∨ 29 < z → w54 z = w z := fun z hz => (hfr58 z (by omega)).trans (hfr0 z hz)
      rw [er57]
      refine lb_if_eq (tgt := 74) hx hb dD_face_70 (by decide) (fun h9 => absurd (by decide) h9) (fun _ => ?_)
      exact g_vret hQ hx hb hr hlk hG hK hS (by decide) (by decide) ⟨h56, ⟨h59, h60, h61, h62, h63, h64, h65⟩, hfr66⟩ dD_face_73

abbrev rmD_face_h : Room := { frames := 2, cells := 0, slots := 0, locals := 43 }
set_option maxRecDepth 100000 in
set_option maxHeartbeats 4000000 in
theorem kD_face_h {l : Launch} {D : va_G} {k : ClassId × ClassId × ClassId} {a : Nat → Nat} {B0 : Nat} {w : Nat → va_E} (hA : gA B0 a) {th : Int32} {n : Nat} {nr : Nat} {nf : Nat} {bw : Int32} {bd : Int32} {nt : Nat} {rd : Nat → Int32} {ma : Nat → Int32} {mb : Nat → Int32} {mc : Nat → Int32} {co : Nat → Int32} {jn : Nat → Int32} {ro : Nat → Int32} (hsD : sD k a w th n nr nf bw bd nt) (hsDP : sDP k a w rd ma mb mc co jn ro) (j : Nat) (f : Int32) (h : Int32) (hj : j < n) (hn : n ≤ 12) (hf5 : rd j = 0 → rngI f 0 5) (hf2 : ¬ rd j = 0 → rngI f 0 2) (hh : ¬ rngI h 0 2) : Met l yD_face (tbw yD_face cD_face 5 none) rmD_face_h (gPc D k a B0 w [.ref (a 22), .int (nI j), .int f, .int h]) (va_Qv (fun w1 => (sD k a w1 2 n nr nf bw bd nt) ∧ (sDP k a w1 rd ma mb mc co jn ro) ∧ ∀ z, z < 22 ∨ 29 < z → w1 z = w z) (gB D k a) (gF B0)) 0 0 (gF B0) := by
  have hsD22 := hsD
  obtain ⟨hsDP23, hsDP24, hsDP25, hsDP26, hsDP27, hsDP28, hsDP29⟩ := hsDP
  refine g_ofW (by decide) rfl (fun p e s m args below meth c Q hQ hx hb hr hlk hml hown hts hB hG hK hS ls hl => ?_)
  have hl : lv_has ls 5 [(0, .ref (a 22)), (1, .int (nI j)), (2, .int f), (3, .int h)] := hl
  have hown : s.vm.findClass RD = some m.cls := hown
  have hfr0 : ∀ z, z < 22 ∨ 29 < z → w z = w z := fun _ _ => rfl
  refine lv_aload_n hx hb dD_face_0 rfl (lv_at hl 0 rfl) ?_
  refine lv_iload_n hx hb dD_face_1 rfl (lv_at hl 1 rfl) ?_
  refine g_ViR (i := 22) (As := [.int (nI j)]) (rest := []) (kD_isPart hA hsD22 (nI j)) calD_isPart cvD_isPart mlD_85 hx hb hml hown hts hB hG hK hS (by decide) hsD22 rfl ⟨by decide, by decide⟩ rfl hl.1 rfl (Nat.le_of_ble_eq_true rfl) dD_face_2 ⟨by decide, by decide⟩ (fun H locs hG hS => ?_)
  refine lb_if_eq (tgt := 42) hx hb dD_face_5 (by decide) (fun h9 => absurd (rng_part hj (by omega)) h9) (fun _ => ?_)
  refine lv_iload_n hx hb dD_face_8 rfl (lv_at hl 2 rfl) ?_
  refine lv_iconst (v := 0) hx hb dD_face_9 (by decide) ?_
  refine lv_aload_n hx hb dD_face_10 rfl (lv_at hl 0 rfl) ?_
  refine g_get hx hb hts inD hown hK hG 22 (by decide) hsD22 rfl 2 (by decide) lkD_7 rfl dD_face_11 ?_
  refine lv_aload_n hx hb dD_face_14 rfl (lv_at hl 0 rfl) ?_
  refine lv_iload_n hx hb dD_face_15 rfl (lv_at hl 1 rfl) ?_
  refine g_ViR (i := 22) (As := [.int (nI j)]) (rest := [.ref (a 23), .int 0, .int f]) (kD_isPart hA hsD22 (nI j)) calD_isPart cvD_isPart mlD_85 hx hb hml hown hts hB hG hK hS (by decide) hsD22 rfl ⟨by decide, by decide⟩ rfl hl.1 rfl (Nat.le_of_ble_eq_true rfl) dD_face_16 ⟨by decide, by decide⟩ (fun H locs hG hS => ?_)
  refine lb_if_eq (tgt := 26) hx hb dD_face_19 (by decide) (fun h9 => absurd (rng_part hj (by omega)) h9) (fun _ => ?_)
  refine lv_iload_n hx hb dD_face_22 rfl (lv_at hl 1 rfl) ?_
  refine lv_goto (tgt := 27) hx hb dD_face_23 (by decide) ?_
  refine g_zald hx hb hK hG 23 (by decide) hsDP23 (j := j) (by omega) (by decide) dD_face_27 ?_
  refine lv_if_eq (tgt := 35) hx hb dD_face_28 (by decide) (fun c3 => ?_) (fun c3 => ?_)
  · refine lv_iconst (v := 5) hx hb dD_face_35 (by decide) ?_
    refine g_SiR (As := [.int f, .int 0, .int 5]) (rest := []) (kD_in hA f 0 5) calD_in cvD_in mlD_66 hx hb hml hown hts hB hG hK hS ⟨by decide, by decide⟩ rfl hl.1 rfl (Nat.le_of_ble_eq_true rfl) dD_face_36 ⟨by decide, by decide⟩ (fun H locs hG hS => ?_)
    refine lb_if_ne (tgt := 46) hx hb dD_face_39 (by decide) (fun _ => ?_) (fun h9 => absurd (hf5 (by assumption)) h9)
    refine lv_iconst (v := 0) hx hb dD_face_46 (by decide) ?_
    refine lv_istore (lv' := [(4, .int 0), (0, .ref (a 22)), (1, .int (nI j)), (2, .int f), (3, .int h)]) hx hb dD_face_47 hl (by decide) rfl (fun ls hl => ?_)
    refine lv_aload_n hx hb dD_face_49 rfl (lv_at hl 1 rfl) ?_
    refine lv_iload hx hb dD_face_50 (lv_at hl 0 rfl) ?_
    refine lv_iload_n hx hb dD_face_52 rfl (lv_at hl 4 rfl) ?_
    refine lv_iconst (v := 0) hx hb dD_face_53 (by decide) ?_
    refine lv_iconst (v := 2) hx hb dD_face_54 (by decide) ?_
    refine g_SiR (As := [.int h, .int 0, .int 2]) (rest := [.int 0, .ref (a 22)]) (kD_in hA h 0 2) calD_in cvD_in mlD_66 hx hb hml hown hts hB hG hK hS ⟨by decide, by decide⟩ rfl hl.1 rfl (Nat.le_of_ble_eq_true rfl) dD_face_55 ⟨by decide, by decide⟩ (fun H locs hG hS => ?_)
    refine lb_if_ne (tgt := 65) hx hb dD_face_58 (by decide) (fun h9 => absurd h9 hh) (fun _ => ?_)
    refine lv_iconst (v := 1) hx hb dD_face_61 (by decide) ?_
    refine lv_goto (tgt := 66) hx hb dD_face_62 (by decide) ?_
    refine lv_iconst (v := 0) hx hb dD_face_66 (by decide) ?_
    refine g_Vi (i := 22) (As := [.int 0, .int 1, .int 0]) (rest := []) (kD_throwing hA hsD22 0 1 0) calD_throwing cvD_throwing mlD_77 hx hb hml hown hts hB hG hK hS (by decide) hsD22 rfl ⟨by decide, by decide⟩ rfl hl.1 rfl (Nat.le_of_ble_eq_true rfl) dD_face_67 ⟨by decide, by decide⟩ (fun r6 w7 H locs hp8 hG hS => ?_)
    obtain ⟨er10, h9, hfr11⟩ := hp8
    have h12 : w7 23 = .inl (k.2.2, 12, .inl rd) := (hfr11 23 (by omega)).trans hsDP23
    have h13 : w7 24 = .inl (k.1, 12, .inl ma) := (hfr11 24 (by omega)).trans hsDP24
    have h14 : w7 25 = .inl (k.1, 12, .inl mb) := (hfr11 25 (by omega)).trans hsDP25
    have h15 : w7 26 = .inl (k.1, 12, .inl mc) := (hfr11 26 (by omega)).trans hsDP26
    have h16 : w7 27 = .inl (k.1, 72, .inl co) := (hfr11 27 (by omega)).trans hsDP27
    have h17 : w7 28 = .inl (k.1, 12, .inl jn) := (hfr11 28 (by omega)).trans hsDP28
    have h18 : w7 29 = .inl (k.1, 12, .inl ro) := (hfr11 29 (by omega)).trans hsDP29
    have hfr19 : ∀ z, z < 22 ∨ 29 < z → w7 z = w z := fun z hz => (hfr11 z (by omega)).trans (hfr0 z hz)
    rw [er10]
    refine lb_if_eq (tgt := 74) hx hb dD_face_70 (by decide) (fun h9 => absurd (by decide) h9) (fun _ => ?_)
    exact g_vret hQ hx hb hr hlk hG hK hS (by decide) (by decide) ⟨h9, ⟨h12, h13, h14, h15, h16, h17, h18⟩, hfr19⟩ dD_face_73
  · refine lv_iconst (v := 2) hx hb dD_face_31 (by decide) ?_
    refine lv_goto (tgt := 36) hx hb dD_face_32 (by decide) ?_
    refine g_SiR (As := [.int f, .int 0, .int 2]) (rest := []) (kD_in hA f 0 2) calD_in cvD_in mlD_66 hx hb hml hown hts hB hG hK hS ⟨by decide, by decide⟩ rfl hl.1 rfl (Nat.le_of_ble_eq_true rfl) dD_face_36 ⟨by decide, by decide⟩ (fun H locs hG hS => ?_)
    refine lb_if_ne (tgt := 46) hx hb dD_face_39 (by decide) (fun _ => ?_) (fun h9 => absurd (hf2 (by assumption)) h9)
    refine lv_iconst (v := 0) hx hb dD_face_46 (by decide) ?_
    refine lv_istore (lv' := [(4, .int 0), (0, .ref (a 22)), (1, .int (nI j)), (2, .int f), (3, .int h)]) hx hb dD_face_47 hl (by decide) rfl (fun ls hl => ?_)
    refine lv_aload_n hx hb dD_face_49 rfl (lv_at hl 1 rfl) ?_
    refine lv_iload hx hb dD_face_50 (lv_at hl 0 rfl) ?_
    refine lv_iload_n hx hb dD_face_52 rfl (lv_at hl 4 rfl) ?_
    refine lv_iconst (v := 0) hx hb dD_face_53 (by decide) ?_
    refine lv_iconst (v := 2) hx hb dD_face_54 (by decide) ?_
    refine g_SiR (As := [.int h, .int 0, .int 2]) (rest := [.int 0, .ref (a 22)]) (kD_in hA h 0 2) calD_in cvD_in mlD_66 hx hb hml hown hts hB hG hK hS ⟨by decide, by decide⟩ rfl hl.1 rfl (Nat.le_of_ble_eq_true rfl) dD_face_55 ⟨by decide, by decide⟩ (fun H locs hG hS => ?_)
    refine lb_if_ne (tgt := 65) hx hb dD_face_58 (by decide) (fun h9 => absurd h9 hh) (fun _ => ?_)
    refine lv_iconst (v := 1) hx hb dD_face_61 (by decide) ?_
    refine lv_goto (tgt := 66) hx hb dD_face_62 (by decide) ?_
    refine lv_iconst (v := 0) hx hb dD_face_66 (by decide) ?_
    refine g_Vi (i := 22) (As := [.int 0, .int 1, .int 0]) (rest := []) (kD_throwing hA hsD22 0 1 0) calD_throwing cvD_throwing mlD_77 hx hb hml hown hts hB hG hK hS (by decide) hsD22 rfl ⟨by decide, by decide⟩ rfl hl.1 rfl (Nat.le_of_ble_eq_true rfl) dD_face_67 ⟨by decide, by decide⟩ (fun r23 w24 H locs hp25 hG hS => ?_)
    obtain ⟨er27, h26, hfr28⟩ := hp25
    have h29 : w24 23 = .inl (k.2.2, 12, .inl rd) := (hfr28 23 (by omega)).trans hsDP23
    have h30 : w24 24 = .inl (k.1, 12, .inl ma) := (hfr28 24 (by omega)).trans hsDP24
    have h31 : w24 25 = .inl (k.1, 12, .inl mb) := (hfr28 25 (by omega)).trans hsDP25
    have h32 : w24 26 = .inl (k.1, 12, .inl mc) := (hfr28 26 (by omega)).trans hsDP26
    have h33 : w24 27 = .inl (k.1, 72, .inl co) := (hfr28 27 (by omega)).trans hsDP27
    have h34 : w24 28 = .inl (k.1, 12, .inl jn) := (hfr28 28 (by omega)).trans hsDP28
    have h35 : w24 29 = .inl (k.1, 12, .inl ro) := (hfr28 29 (by omega)).trans hsDP29
    have hfr36 : ∀ z, z < 22 ∨ 29 < z → w24 z = w z := fun z hz => (hfr28 z (by omega)).trans (hfr0 z hz)
    rw [er27]
    refine lb_if_eq (tgt := 74) hx hb dD_face_70 (by decide) (fun h9 => absurd (by decide) h9) (fun _ => ?_)
    exact g_vret hQ hx hb hr hlk hG hK hS (by decide) (by decide) ⟨h26, ⟨h29, h30, h31, h32, h33, h34, h35⟩, hfr36⟩ dD_face_73

abbrev rmD_modulus_p : Room := { frames := 2, cells := 0, slots := 0, locals := 43 }
set_option maxRecDepth 100000 in
set_option maxHeartbeats 4000000 in
theorem kD_modulus_p {l : Launch} {D : va_G} {k : ClassId × ClassId × ClassId} {a : Nat → Nat} {B0 : Nat} {w : Nat → va_E} (hA : gA B0 a) {th : Int32} {n : Nat} {nr : Nat} {nf : Nat} {bw : Int32} {bd : Int32} {nt : Nat} {rd : Nat → Int32} {ma : Nat → Int32} {mb : Nat → Int32} {mc : Nat → Int32} {co : Nat → Int32} {jn : Nat → Int32} {ro : Nat → Int32} (hsD : sD k a w th n nr nf bw bd nt) (hsDP : sDP k a w rd ma mb mc co jn ro) (q : Int32) (r : Int32) (hq : ¬ rngI q 0 (nI n - 1)) : Met l yD_modulus (tbw yD_modulus cD_modulus 10 (some .long)) rmD_modulus_p (gPc D k a B0 w [.ref (a 22), .int q, .int r]) (va_Ql (fun rr9 w1 => rr9 = 0 ∧ (sD k a w1 1 n nr nf bw bd nt) ∧ (sDP k a w1 rd ma mb mc co jn ro) ∧ ∀ z, z < 22 ∨ 29 < z → w1 z = w z) (gB D k a) (gF B0)) 0 0 (gF B0) := by
  have hsD22 := hsD
  obtain ⟨hsDP23, hsDP24, hsDP25, hsDP26, hsDP27, hsDP28, hsDP29⟩ := hsDP
  refine g_ofW (by decide) rfl (fun p e s m args below meth c Q hQ hx hb hr hlk hml hown hts hB hG hK hS ls hl => ?_)
  have hl : lv_has ls 10 [(0, .ref (a 22)), (1, .int q), (2, .int r)] := hl
  have hown : s.vm.findClass RD = some m.cls := hown
  have hfr0 : ∀ z, z < 22 ∨ 29 < z → w z = w z := fun _ _ => rfl
  refine lv_aload_n hx hb dD_modulus_0 rfl (lv_at hl 0 rfl) ?_
  refine lv_iload_n hx hb dD_modulus_1 rfl (lv_at hl 1 rfl) ?_
  refine g_ViR (i := 22) (As := [.int q]) (rest := []) (kD_isPart hA hsD22 q) calD_isPart cvD_isPart mlD_85 hx hb hml hown hts hB hG hK hS (by decide) hsD22 rfl ⟨by decide, by decide⟩ rfl hl.1 rfl (Nat.le_of_ble_eq_true rfl) dD_modulus_2 ⟨by decide, by decide⟩ (fun H locs hG hS => ?_)
  refine lb_if_eq (tgt := 17) hx hb dD_modulus_5 (by decide) (fun _ => ?_) (fun h9 => absurd h9 hq)
  refine lv_iconst (v := 1) hx hb dD_modulus_17 (by decide) ?_
  refine lv_goto (tgt := 22) hx hb dD_modulus_18 (by decide) ?_
  refine lv_istore_n (lv' := [(3, .int 1), (0, .ref (a 22)), (1, .int q), (2, .int r)]) hx hb dD_modulus_22 rfl hl (by decide) rfl (fun ls hl => ?_)
  refine lv_aload_n hx hb dD_modulus_23 rfl (lv_at hl 1 rfl) ?_
  refine lv_iload_n hx hb dD_modulus_24 rfl (lv_at hl 0 rfl) ?_
  refine lv_iload_n hx hb dD_modulus_25 rfl (lv_at hl 0 rfl) ?_
  refine lv_if_ne (tgt := 51) hx hb dD_modulus_26 (by decide) (fun _ => ?_) (fun h9 => absurd h9 (by decide))
  refine lv_iconst (v := 0) hx hb dD_modulus_51 (by decide) ?_
  refine lv_iconst (v := 0) hx hb dD_modulus_52 (by decide) ?_
  refine g_Vi (i := 22) (As := [.int 1, .int 0, .int 0]) (rest := []) (kD_throwing hA hsD22 1 0 0) calD_throwing cvD_throwing mlD_77 hx hb hml hown hts hB hG hK hS (by decide) hsD22 rfl ⟨by decide, by decide⟩ rfl hl.1 rfl (Nat.le_of_ble_eq_true rfl) dD_modulus_53 ⟨by decide, by decide⟩ (fun r3 w4 H locs hp5 hG hS => ?_)
  obtain ⟨er7, h6, hfr8⟩ := hp5
  have h9 : w4 23 = .inl (k.2.2, 12, .inl rd) := (hfr8 23 (by omega)).trans hsDP23
  have h10 : w4 24 = .inl (k.1, 12, .inl ma) := (hfr8 24 (by omega)).trans hsDP24
  have h11 : w4 25 = .inl (k.1, 12, .inl mb) := (hfr8 25 (by omega)).trans hsDP25
  have h12 : w4 26 = .inl (k.1, 12, .inl mc) := (hfr8 26 (by omega)).trans hsDP26
  have h13 : w4 27 = .inl (k.1, 72, .inl co) := (hfr8 27 (by omega)).trans hsDP27
  have h14 : w4 28 = .inl (k.1, 12, .inl jn) := (hfr8 28 (by omega)).trans hsDP28
  have h15 : w4 29 = .inl (k.1, 12, .inl ro) := (hfr8 29 (by omega)).trans hsDP29
  have hfr16 : ∀ z, z < 22 ∨ 29 < z → w4 z = w z := fun z hz => (hfr8 z (by omega)).trans (hfr0 z hz)
  rw [er7]
  refine lb_if_eq (tgt := 61) hx hb dD_modulus_56 (by decide) (fun h9 => absurd (by decide) h9) (fun _ => ?_)
  refine lv_lconst (v := 0) hx hb dD_modulus_59 (by decide) ?_
  exact g_lret hQ hx hb hr hlk hG hK hS (by decide) (by decide) ⟨by first | rfl | omega | (simp_all; done) | grind, h6, ⟨h9, h10, h11, h12, h13, h14, h15⟩, hfr16⟩ dD_modulus_60

abbrev rmD_modulus_w : Room := { frames := 2, cells := 0, slots := 0, locals := 43 }
set_option maxRecDepth 100000 in
set_option maxHeartbeats 4000000 in
theorem kD_modulus_w {l : Launch} {D : va_G} {k : ClassId × ClassId × ClassId} {a : Nat → Nat} {B0 : Nat} {w : Nat → va_E} (hA : gA B0 a) {th : Int32} {n : Nat} {nr : Nat} {nf : Nat} {bw : Int32} {bd : Int32} {nt : Nat} {rd : Nat → Int32} {ma : Nat → Int32} {mb : Nat → Int32} {mc : Nat → Int32} {co : Nat → Int32} {jn : Nat → Int32} {ro : Nat → Int32} (hsD : sD k a w th n nr nf bw bd nt) (hsDP : sDP k a w rd ma mb mc co jn ro) (j : Nat) (r : Int32) (hj : j < n) (hn : n ≤ 12) (hw : ¬ rngI r 0 1) : Met l yD_modulus (tbw yD_modulus cD_modulus 10 (some .long)) rmD_modulus_w (gPc D k a B0 w [.ref (a 22), .int (nI j), .int r]) (va_Ql (fun rr9 w1 => rr9 = 0 ∧ (sD k a w1 1 n nr nf bw bd nt) ∧ (sDP k a w1 rd ma mb mc co jn ro) ∧ ∀ z, z < 22 ∨ 29 < z → w1 z = w z) (gB D k a) (gF B0)) 0 0 (gF B0) := by
  have hsD22 := hsD
  obtain ⟨hsDP23, hsDP24, hsDP25, hsDP26, hsDP27, hsDP28, hsDP29⟩ := hsDP
  refine g_ofW (by decide) rfl (fun p e s m args below meth c Q hQ hx hb hr hlk hml hown hts hB hG hK hS ls hl => ?_)
  have hl : lv_has ls 10 [(0, .ref (a 22)), (1, .int (nI j)), (2, .int r)] := hl
  have hown : s.vm.findClass RD = some m.cls := hown
  have hfr0 : ∀ z, z < 22 ∨ 29 < z → w z = w z := fun _ _ => rfl
  refine lv_aload_n hx hb dD_modulus_0 rfl (lv_at hl 0 rfl) ?_
  refine lv_iload_n hx hb dD_modulus_1 rfl (lv_at hl 1 rfl) ?_
  refine g_ViR (i := 22) (As := [.int (nI j)]) (rest := []) (kD_isPart hA hsD22 (nI j)) calD_isPart cvD_isPart mlD_85 hx hb hml hown hts hB hG hK hS (by decide) hsD22 rfl ⟨by decide, by decide⟩ rfl hl.1 rfl (Nat.le_of_ble_eq_true rfl) dD_modulus_2 ⟨by decide, by decide⟩ (fun H locs hG hS => ?_)
  refine lb_if_eq (tgt := 17) hx hb dD_modulus_5 (by decide) (fun h9 => absurd (rng_part hj (by omega)) h9) (fun _ => ?_)
  refine lv_iload_n hx hb dD_modulus_8 rfl (lv_at hl 2 rfl) ?_
  refine lv_iconst (v := 0) hx hb dD_modulus_9 (by decide) ?_
  refine lv_iconst (v := 1) hx hb dD_modulus_10 (by decide) ?_
  refine g_SiR (As := [.int r, .int 0, .int 1]) (rest := []) (kD_in hA r 0 1) calD_in cvD_in mlD_66 hx hb hml hown hts hB hG hK hS ⟨by decide, by decide⟩ rfl hl.1 rfl (Nat.le_of_ble_eq_true rfl) dD_modulus_11 ⟨by decide, by decide⟩ (fun H locs hG hS => ?_)
  refine lb_if_ne (tgt := 21) hx hb dD_modulus_14 (by decide) (fun h9 => absurd h9 hw) (fun _ => ?_)
  refine lv_iconst (v := 1) hx hb dD_modulus_17 (by decide) ?_
  refine lv_goto (tgt := 22) hx hb dD_modulus_18 (by decide) ?_
  refine lv_istore_n (lv' := [(3, .int 1), (0, .ref (a 22)), (1, .int (nI j)), (2, .int r)]) hx hb dD_modulus_22 rfl hl (by decide) rfl (fun ls hl => ?_)
  refine lv_aload_n hx hb dD_modulus_23 rfl (lv_at hl 1 rfl) ?_
  refine lv_iload_n hx hb dD_modulus_24 rfl (lv_at hl 0 rfl) ?_
  refine lv_iload_n hx hb dD_modulus_25 rfl (lv_at hl 0 rfl) ?_
  refine lv_if_ne (tgt := 51) hx hb dD_modulus_26 (by decide) (fun _ => ?_) (fun h9 => absurd h9 (by decide))
  refine lv_iconst (v := 0) hx hb dD_modulus_51 (by decide) ?_
  refine lv_iconst (v := 0) hx hb dD_modulus_52 (by decide) ?_
  refine g_Vi (i := 22) (As := [.int 1, .int 0, .int 0]) (rest := []) (kD_throwing hA hsD22 1 0 0) calD_throwing cvD_throwing mlD_77 hx hb hml hown hts hB hG hK hS (by decide) hsD22 rfl ⟨by decide, by decide⟩ rfl hl.1 rfl (Nat.le_of_ble_eq_true rfl) dD_modulus_53 ⟨by decide, by decide⟩ (fun r4 w5 H locs hp6 hG hS => ?_)
  obtain ⟨er8, h7, hfr9⟩ := hp6
  have h10 : w5 23 = .inl (k.2.2, 12, .inl rd) := (hfr9 23 (by omega)).trans hsDP23
  have h11 : w5 24 = .inl (k.1, 12, .inl ma) := (hfr9 24 (by omega)).trans hsDP24
  have h12 : w5 25 = .inl (k.1, 12, .inl mb) := (hfr9 25 (by omega)).trans hsDP25
  have h13 : w5 26 = .inl (k.1, 12, .inl mc) := (hfr9 26 (by omega)).trans hsDP26
  have h14 : w5 27 = .inl (k.1, 72, .inl co) := (hfr9 27 (by omega)).trans hsDP27
  have h15 : w5 28 = .inl (k.1, 12, .inl jn) := (hfr9 28 (by omega)).trans hsDP28
  have h16 : w5 29 = .inl (k.1, 12, .inl ro) := (hfr9 29 (by omega)).trans hsDP29
  have hfr17 : ∀ z, z < 22 ∨ 29 < z → w5 z = w z := fun z hz => (hfr9 z (by omega)).trans (hfr0 z hz)
  rw [er8]
  refine lb_if_eq (tgt := 61) hx hb dD_modulus_56 (by decide) (fun h9 => absurd (by decide) h9) (fun _ => ?_)
  refine lv_lconst (v := 0) hx hb dD_modulus_59 (by decide) ?_
  exact g_lret hQ hx hb hr hlk hG hK hS (by decide) (by decide) ⟨by first | rfl | omega | (simp_all; done) | grind, h7, ⟨h10, h11, h12, h13, h14, h15, h16⟩, hfr17⟩ dD_modulus_60

abbrev rmD_modulus_t : Room := { frames := 2, cells := 0, slots := 0, locals := 43 }
set_option maxRecDepth 100000 in
set_option maxHeartbeats 4000000 in
theorem kD_modulus_t {l : Launch} {D : va_G} {k : ClassId × ClassId × ClassId} {a : Nat → Nat} {B0 : Nat} {w : Nat → va_E} (hA : gA B0 a) {th : Int32} {n : Nat} {nr : Nat} {nf : Nat} {bw : Int32} {bd : Int32} {nt : Nat} {rd : Nat → Int32} {ma : Nat → Int32} {mb : Nat → Int32} {mc : Nat → Int32} {co : Nat → Int32} {jn : Nat → Int32} {ro : Nat → Int32} (hsD : sD k a w th n nr nf bw bd nt) (hsDP : sDP k a w rd ma mb mc co jn ro) (j : Nat) (r : Int32) (hj : j < n) (hn : n ≤ 12) (hw : rngI r 0 1) (ht : mLo rd ma mb mc co j = 0) : Met l yD_modulus (tbw yD_modulus cD_modulus 10 (some .long)) rmD_modulus_t (gPc D k a B0 w [.ref (a 22), .int (nI j), .int r]) (va_Ql (fun rr9 w1 => rr9 = 0 ∧ (sD k a w1 2 n nr nf bw bd nt) ∧ (sDP k a w1 rd ma mb mc co jn ro) ∧ ∀ z, z < 22 ∨ 29 < z → w1 z = w z) (gB D k a) (gF B0)) 0 0 (gF B0) := by
  have hsD22 := hsD
  obtain ⟨hsDP23, hsDP24, hsDP25, hsDP26, hsDP27, hsDP28, hsDP29⟩ := hsDP
  refine g_ofW (by decide) rfl (fun p e s m args below meth c Q hQ hx hb hr hlk hml hown hts hB hG hK hS ls hl => ?_)
  have hl : lv_has ls 10 [(0, .ref (a 22)), (1, .int (nI j)), (2, .int r)] := hl
  have hown : s.vm.findClass RD = some m.cls := hown
  have hfr0 : ∀ z, z < 22 ∨ 29 < z → w z = w z := fun _ _ => rfl
  refine lv_aload_n hx hb dD_modulus_0 rfl (lv_at hl 0 rfl) ?_
  refine lv_iload_n hx hb dD_modulus_1 rfl (lv_at hl 1 rfl) ?_
  refine g_ViR (i := 22) (As := [.int (nI j)]) (rest := []) (kD_isPart hA hsD22 (nI j)) calD_isPart cvD_isPart mlD_85 hx hb hml hown hts hB hG hK hS (by decide) hsD22 rfl ⟨by decide, by decide⟩ rfl hl.1 rfl (Nat.le_of_ble_eq_true rfl) dD_modulus_2 ⟨by decide, by decide⟩ (fun H locs hG hS => ?_)
  refine lb_if_eq (tgt := 17) hx hb dD_modulus_5 (by decide) (fun h9 => absurd (rng_part hj (by omega)) h9) (fun _ => ?_)
  refine lv_iload_n hx hb dD_modulus_8 rfl (lv_at hl 2 rfl) ?_
  refine lv_iconst (v := 0) hx hb dD_modulus_9 (by decide) ?_
  refine lv_iconst (v := 1) hx hb dD_modulus_10 (by decide) ?_
  refine g_SiR (As := [.int r, .int 0, .int 1]) (rest := []) (kD_in hA r 0 1) calD_in cvD_in mlD_66 hx hb hml hown hts hB hG hK hS ⟨by decide, by decide⟩ rfl hl.1 rfl (Nat.le_of_ble_eq_true rfl) dD_modulus_11 ⟨by decide, by decide⟩ (fun H locs hG hS => ?_)
  refine lb_if_ne (tgt := 21) hx hb dD_modulus_14 (by decide) (fun _ => ?_) (fun h9 => absurd hw h9)
  refine lv_iconst (v := 0) hx hb dD_modulus_21 (by decide) ?_
  refine lv_istore_n (lv' := [(3, .int 0), (0, .ref (a 22)), (1, .int (nI j)), (2, .int r)]) hx hb dD_modulus_22 rfl hl (by decide) rfl (fun ls hl => ?_)
  refine lv_aload_n hx hb dD_modulus_23 rfl (lv_at hl 1 rfl) ?_
  refine lv_iload_n hx hb dD_modulus_24 rfl (lv_at hl 0 rfl) ?_
  refine lv_iload_n hx hb dD_modulus_25 rfl (lv_at hl 0 rfl) ?_
  refine lv_if_ne (tgt := 51) hx hb dD_modulus_26 (by decide) (fun h9 => absurd h9 (by decide)) (fun _ => ?_)
  refine lv_aload_n hx hb dD_modulus_29 rfl (lv_at hl 1 rfl) ?_
  refine lv_iload_n hx hb dD_modulus_30 rfl (lv_at hl 0 rfl) ?_
  refine lv_if_eq (tgt := 38) hx hb dD_modulus_31 (by decide) (fun _ => ?_) (fun h9 => absurd h9 (by decide))
  refine lv_iload_n hx hb dD_modulus_38 rfl (lv_at hl 2 rfl) ?_
  refine g_VlR (i := 22) (As := [.int (nI j)]) (rest := [.int 0, .ref (a 22)]) (kD_lowOf hA hsD22 ⟨hsDP23, hsDP24, hsDP25, hsDP26, hsDP27, hsDP28, hsDP29⟩ j (by omega)) calD_lowOf cvD_lowOf mlD_94 hx hb hml hown hts hB hG hK hS (by decide) hsD22 rfl ⟨by decide, by decide⟩ rfl hl.1 rfl (Nat.le_of_ble_eq_true rfl) dD_modulus_39 ⟨by decide, by decide⟩ (fun H locs hG hS => ?_)
  refine lv_lconst (v := 0) hx hb dD_modulus_42 (by decide) ?_
  refine W.lcmp hx hb dD_modulus_43 ?_
  refine lc_if_ne (tgt := 51) hx hb dD_modulus_44 (by decide) (fun c5 => (absurd ht c5)) (fun c5 => ?_)
  refine lv_iconst (v := 1) hx hb dD_modulus_47 (by decide) ?_
  refine lv_goto (tgt := 52) hx hb dD_modulus_48 (by decide) ?_
  refine lv_iconst (v := 0) hx hb dD_modulus_52 (by decide) ?_
  refine g_Vi (i := 22) (As := [.int 0, .int 1, .int 0]) (rest := []) (kD_throwing hA hsD22 0 1 0) calD_throwing cvD_throwing mlD_77 hx hb hml hown hts hB hG hK hS (by decide) hsD22 rfl ⟨by decide, by decide⟩ rfl hl.1 rfl (Nat.le_of_ble_eq_true rfl) dD_modulus_53 ⟨by decide, by decide⟩ (fun r6 w7 H locs hp8 hG hS => ?_)
  obtain ⟨er10, h9, hfr11⟩ := hp8
  have h12 : w7 23 = .inl (k.2.2, 12, .inl rd) := (hfr11 23 (by omega)).trans hsDP23
  have h13 : w7 24 = .inl (k.1, 12, .inl ma) := (hfr11 24 (by omega)).trans hsDP24
  have h14 : w7 25 = .inl (k.1, 12, .inl mb) := (hfr11 25 (by omega)).trans hsDP25
  have h15 : w7 26 = .inl (k.1, 12, .inl mc) := (hfr11 26 (by omega)).trans hsDP26
  have h16 : w7 27 = .inl (k.1, 72, .inl co) := (hfr11 27 (by omega)).trans hsDP27
  have h17 : w7 28 = .inl (k.1, 12, .inl jn) := (hfr11 28 (by omega)).trans hsDP28
  have h18 : w7 29 = .inl (k.1, 12, .inl ro) := (hfr11 29 (by omega)).trans hsDP29
  have hfr19 : ∀ z, z < 22 ∨ 29 < z → w7 z = w z := fun z hz => (hfr11 z (by omega)).trans (hfr0 z hz)
  rw [er10]
  refine lb_if_eq (tgt := 61) hx hb dD_modulus_56 (by decide) (fun h9 => absurd (by decide) h9) (fun _ => ?_)
  refine lv_lconst (v := 0) hx hb dD_modulus_59 (by decide) ?_
  exact g_lret hQ hx hb hr hlk hG hK hS (by decide) (by decide) ⟨by first | rfl | omega | (simp_all; done) | grind, h9, ⟨h12, h13, h14, h15, h16, h17, h18⟩, hfr19⟩ dD_modulus_60

abbrev rmD_modulus_k : Room := { frames := 2, cells := 0, slots := 0, locals := 43 }
set_option maxRecDepth 100000 in
set_option maxHeartbeats 4000000 in
theorem kD_modulus_k {l : Launch} {D : va_G} {k : ClassId × ClassId × ClassId} {a : Nat → Nat} {B0 : Nat} {w : Nat → va_E} (hA : gA B0 a) {th : Int32} {n : Nat} {nr : Nat} {nf : Nat} {bw : Int32} {bd : Int32} {nt : Nat} {rd : Nat → Int32} {ma : Nat → Int32} {mb : Nat → Int32} {mc : Nat → Int32} {co : Nat → Int32} {jn : Nat → Int32} {ro : Nat → Int32} (hsD : sD k a w th n nr nf bw bd nt) (hsDP : sDP k a w rd ma mb mc co jn ro) (j : Nat) (r : Int32) (hj : j < n) (hn : n ≤ 12) (hw : rngI r 0 1) (U : Nat) (L : Nat) (hU : mUp rd ma mb mc j = lN U) (hL : mLo rd ma mb mc co j = lN L) (hU2 : U < 2 ^ 62) (hL2 : L < 2 ^ 62) (hL0 : 0 < L) : Met l yD_modulus (tbw yD_modulus cD_modulus 10 (some .long)) rmD_modulus_k (gPc D k a B0 w [.ref (a 22), .int (nI j), .int r]) (va_Ql (fun rr9 w1 => rr9 = (mMod (mUp rd ma mb mc j) (mLo rd ma mb mc co j) (Nat.gcd L U) r) ∧ (sD k a w1 0 n nr nf bw bd nt) ∧ (sDP k a w1 rd ma mb mc co jn ro) ∧ ∀ z, z < 22 ∨ 29 < z → w1 z = w z) (gB D k a) (gF B0)) 0 0 (gF B0) := by
  have hsD22 := hsD
  obtain ⟨hsDP23, hsDP24, hsDP25, hsDP26, hsDP27, hsDP28, hsDP29⟩ := hsDP
  refine g_ofW (by decide) rfl (fun p e s m args below meth c Q hQ hx hb hr hlk hml hown hts hB hG hK hS ls hl => ?_)
  have hl : lv_has ls 10 [(0, .ref (a 22)), (1, .int (nI j)), (2, .int r)] := hl
  have hown : s.vm.findClass RD = some m.cls := hown
  have hfr0 : ∀ z, z < 22 ∨ 29 < z → w z = w z := fun _ _ => rfl
  refine lv_aload_n hx hb dD_modulus_0 rfl (lv_at hl 0 rfl) ?_
  refine lv_iload_n hx hb dD_modulus_1 rfl (lv_at hl 1 rfl) ?_
  refine g_ViR (i := 22) (As := [.int (nI j)]) (rest := []) (kD_isPart hA hsD22 (nI j)) calD_isPart cvD_isPart mlD_85 hx hb hml hown hts hB hG hK hS (by decide) hsD22 rfl ⟨by decide, by decide⟩ rfl hl.1 rfl (Nat.le_of_ble_eq_true rfl) dD_modulus_2 ⟨by decide, by decide⟩ (fun H locs hG hS => ?_)
  refine lb_if_eq (tgt := 17) hx hb dD_modulus_5 (by decide) (fun h9 => absurd (rng_part hj (by omega)) h9) (fun _ => ?_)
  refine lv_iload_n hx hb dD_modulus_8 rfl (lv_at hl 2 rfl) ?_
  refine lv_iconst (v := 0) hx hb dD_modulus_9 (by decide) ?_
  refine lv_iconst (v := 1) hx hb dD_modulus_10 (by decide) ?_
  refine g_SiR (As := [.int r, .int 0, .int 1]) (rest := []) (kD_in hA r 0 1) calD_in cvD_in mlD_66 hx hb hml hown hts hB hG hK hS ⟨by decide, by decide⟩ rfl hl.1 rfl (Nat.le_of_ble_eq_true rfl) dD_modulus_11 ⟨by decide, by decide⟩ (fun H locs hG hS => ?_)
  refine lb_if_ne (tgt := 21) hx hb dD_modulus_14 (by decide) (fun _ => ?_) (fun h9 => absurd hw h9)
  refine lv_iconst (v := 0) hx hb dD_modulus_21 (by decide) ?_
  refine lv_istore_n (lv' := [(3, .int 0), (0, .ref (a 22)), (1, .int (nI j)), (2, .int r)]) hx hb dD_modulus_22 rfl hl (by decide) rfl (fun ls hl => ?_)
  refine lv_aload_n hx hb dD_modulus_23 rfl (lv_at hl 1 rfl) ?_
  refine lv_iload_n hx hb dD_modulus_24 rfl (lv_at hl 0 rfl) ?_
  refine lv_iload_n hx hb dD_modulus_25 rfl (lv_at hl 0 rfl) ?_
  refine lv_if_ne (tgt := 51) hx hb dD_modulus_26 (by decide) (fun h9 => absurd h9 (by decide)) (fun _ => ?_)
  refine lv_aload_n hx hb dD_modulus_29 rfl (lv_at hl 1 rfl) ?_
  refine lv_iload_n hx hb dD_modulus_30 rfl (lv_at hl 0 rfl) ?_
  refine lv_if_eq (tgt := 38) hx hb dD_modulus_31 (by decide) (fun _ => ?_) (fun h9 => absurd h9 (by decide))
  refine lv_iload_n hx hb dD_modulus_38 rfl (lv_at hl 2 rfl) ?_
  refine g_VlR (i := 22) (As := [.int (nI j)]) (rest := [.int 0, .ref (a 22)]) (kD_lowOf hA hsD22 ⟨hsDP23, hsDP24, hsDP25, hsDP26, hsDP27, hsDP28, hsDP29⟩ j (by omega)) calD_lowOf cvD_lowOf mlD_94 hx hb hml hown hts hB hG hK hS (by decide) hsD22 rfl ⟨by decide, by decide⟩ rfl hl.1 rfl (Nat.le_of_ble_eq_true rfl) dD_modulus_39 ⟨by decide, by decide⟩ (fun H locs hG hS => ?_)
  refine lv_lconst (v := 0) hx hb dD_modulus_42 (by decide) ?_
  refine W.lcmp hx hb dD_modulus_43 ?_
  refine lc_if_ne (tgt := 51) hx hb dD_modulus_44 (by decide) (fun c5 => ?_) (fun c5 => (absurd (c5.symm.trans hL).symm (lN_ne0 hL0 (by omega))))
  refine lv_iconst (v := 0) hx hb dD_modulus_51 (by decide) ?_
  refine lv_iconst (v := 0) hx hb dD_modulus_52 (by decide) ?_
  refine g_Vi (i := 22) (As := [.int 0, .int 0, .int 0]) (rest := []) (kD_throwing hA hsD22 0 0 0) calD_throwing cvD_throwing mlD_77 hx hb hml hown hts hB hG hK hS (by decide) hsD22 rfl ⟨by decide, by decide⟩ rfl hl.1 rfl (Nat.le_of_ble_eq_true rfl) dD_modulus_53 ⟨by decide, by decide⟩ (fun r6 w7 H locs hp8 hG hS => ?_)
  obtain ⟨er10, h9, hfr11⟩ := hp8
  have h12 : w7 23 = .inl (k.2.2, 12, .inl rd) := (hfr11 23 (by omega)).trans hsDP23
  have h13 : w7 24 = .inl (k.1, 12, .inl ma) := (hfr11 24 (by omega)).trans hsDP24
  have h14 : w7 25 = .inl (k.1, 12, .inl mb) := (hfr11 25 (by omega)).trans hsDP25
  have h15 : w7 26 = .inl (k.1, 12, .inl mc) := (hfr11 26 (by omega)).trans hsDP26
  have h16 : w7 27 = .inl (k.1, 72, .inl co) := (hfr11 27 (by omega)).trans hsDP27
  have h17 : w7 28 = .inl (k.1, 12, .inl jn) := (hfr11 28 (by omega)).trans hsDP28
  have h18 : w7 29 = .inl (k.1, 12, .inl ro) := (hfr11 29 (by omega)).trans hsDP29
  have hfr19 : ∀ z, z < 22 ∨ 29 < z → w7 z = w z := fun z hz => (hfr11 z (by omega)).trans (hfr0 z hz)
  rw [er10]
  refine lb_if_eq (tgt := 61) hx hb dD_modulus_56 (by decide) (fun _ => ?_) (fun h9 => absurd h9 (by decide))
  refine lv_aload_n hx hb dD_modulus_61 rfl (lv_at hl 1 rfl) ?_
  refine lv_iload_n hx hb dD_modulus_62 rfl (lv_at hl 2 rfl) ?_
  refine g_VlR (i := 22) (As := [.int (nI j)]) (rest := []) (kD_lowOf hA h9 ⟨h12, h13, h14, h15, h16, h17, h18⟩ j (by omega)) calD_lowOf cvD_lowOf mlD_94 hx hb hml hown hts hB hG hK hS (by decide) h9 rfl ⟨by decide, by decide⟩ rfl hl.1 rfl (Nat.le_of_ble_eq_true rfl) dD_modulus_63 ⟨by decide, by decide⟩ (fun H locs hG hS => ?_)
  rw [hL]
  refine lv_lstore (lv' := [(4, .long (lN L)), (3, .int 0), (0, .ref (a 22)), (1, .int (nI j)), (2, .int r)]) hx hb dD_modulus_66 hl (by decide) rfl (fun ls hl => ?_)
  refine lv_aload_n hx hb dD_modulus_68 rfl (lv_at hl 2 rfl) ?_
  refine lv_iload_n hx hb dD_modulus_69 rfl (lv_at hl 3 rfl) ?_
  refine g_VlR (i := 22) (As := [.int (nI j)]) (rest := []) (kD_upOf hA h9 ⟨h12, h13, h14, h15, h16, h17, h18⟩ j (by omega)) calD_upOf cvD_upOf mlD_98 hx hb hml hown hts hB hG hK hS (by decide) h9 rfl ⟨by decide, by decide⟩ rfl hl.1 rfl (Nat.le_of_ble_eq_true rfl) dD_modulus_70 ⟨by decide, by decide⟩ (fun H locs hG hS => ?_)
  rw [hU]
  refine lv_lstore (lv' := [(6, .long (lN U)), (4, .long (lN L)), (3, .int 0), (0, .ref (a 22)), (1, .int (nI j)), (2, .int r)]) hx hb dD_modulus_73 hl (by decide) rfl (fun ls hl => ?_)
  have loop75 : ∀ (k9 : Nat) (a9 : Nat) (b9 : Nat) (ha : a9 < 2 ^ 62) (hb2 : b9 < 2 ^ 62) (hk : b9 ≤ k9) (hg : Nat.gcd a9 b9 = Nat.gcd L U) (H : Heap) (locs : List Loc) (ls : Array Slot), gW D a w7 H → va_S (gF B0) s.heap H locs → lv_has ls 10 [(0, .ref (a 22)), (1, .int (nI j)), (2, .int r), (4, .long (lN a9)), (6, .long (lN b9))] → W p l e rmD_modulus_k s m args below meth c H locs 0 0 Q (F0 m 75 ls []) := by
    intro k9
    induction k9 using Nat.strongRecOn with
    | _ k9 ih75 =>
      intro a9 b9 ha hb2 hk hg H locs ls hG hS hl
      refine lv_lload hx hb dD_modulus_75 (lv_at hl 4 rfl) ?_
      refine lv_lconst (v := 0) hx hb dD_modulus_77 (by decide) ?_
      refine W.lcmp hx hb dD_modulus_78 ?_
      refine lc_if_le (tgt := 100) hx hb dD_modulus_79 (by decide) (fun c21 => ?_) (fun c21 => ?_)
      · have hb0 : b9 = 0 := lN_le0 (by omega) c21
        have hga : a9 = Nat.gcd L U := by rw [← hg, hb0, Nat.gcd_zero_right]
        have ha0 : 0 < a9 := by rw [hga]; exact Nat.gcd_pos_of_pos_left _ hL0
        refine lv_iload_n hx hb dD_modulus_100 rfl (lv_at hl 2 rfl) ?_
        refine lv_if_ne (tgt := 112) hx hb dD_modulus_101 (by decide) (fun c22 => ?_) (fun c22 => ?_)
        · refine lv_aload_n hx hb dD_modulus_112 rfl (lv_at hl 0 rfl) ?_
          refine lv_iload_n hx hb dD_modulus_113 rfl (lv_at hl 1 rfl) ?_
          refine g_VlR (i := 22) (As := [.int (nI j)]) (rest := []) (kD_lowOf hA h9 ⟨h12, h13, h14, h15, h16, h17, h18⟩ j (by omega)) calD_lowOf cvD_lowOf mlD_94 hx hb hml hown hts hB hG hK hS (by decide) h9 rfl ⟨by decide, by decide⟩ rfl hl.1 rfl (Nat.le_of_ble_eq_true rfl) dD_modulus_114 ⟨by decide, by decide⟩ (fun H locs hG hS => ?_)
          refine lv_lload hx hb dD_modulus_117 (lv_at hl 3 rfl) ?_
          refine lv_ldiv hx hb dD_modulus_119 (lN_ne0 ha0 (by omega)) ?_
          exact g_lret hQ hx hb hr hlk hG hK hS (by decide) (by decide) ⟨by unfold mMod; rw [← hga]; first | exact (if_pos (by assumption)).symm | exact (if_neg (by assumption)).symm, h9, ⟨h12, h13, h14, h15, h16, h17, h18⟩, hfr19⟩ dD_modulus_120
        · refine lv_aload_n hx hb dD_modulus_104 rfl (lv_at hl 0 rfl) ?_
          refine lv_iload_n hx hb dD_modulus_105 rfl (lv_at hl 1 rfl) ?_
          refine g_VlR (i := 22) (As := [.int (nI j)]) (rest := []) (kD_upOf hA h9 ⟨h12, h13, h14, h15, h16, h17, h18⟩ j (by omega)) calD_upOf cvD_upOf mlD_98 hx hb hml hown hts hB hG hK hS (by decide) h9 rfl ⟨by decide, by decide⟩ rfl hl.1 rfl (Nat.le_of_ble_eq_true rfl) dD_modulus_106 ⟨by decide, by decide⟩ (fun H locs hG hS => ?_)
          refine lv_goto (tgt := 117) hx hb dD_modulus_109 (by decide) ?_
          refine lv_lload hx hb dD_modulus_117 (lv_at hl 3 rfl) ?_
          refine lv_ldiv hx hb dD_modulus_119 (lN_ne0 ha0 (by omega)) ?_
          exact g_lret hQ hx hb hr hlk hG hK hS (by decide) (by decide) ⟨by unfold mMod; rw [← hga]; first | exact (if_pos (by assumption)).symm | exact (if_neg (by assumption)).symm, h9, ⟨h12, h13, h14, h15, h16, h17, h18⟩, hfr19⟩ dD_modulus_120
      · have hb0 : 0 < b9 := lN_pos (by omega) c21
        obtain ⟨k8, rfl⟩ : ∃ z9, k9 = z9 + 1 := ⟨k9 - 1, by omega⟩
        refine lv_lload hx hb dD_modulus_82 (lv_at hl 3 rfl) ?_
        refine lv_lload hx hb dD_modulus_84 (lv_at hl 4 rfl) ?_
        refine lv_lrem hx hb dD_modulus_86 (lN_ne0 hb0 (by omega)) ?_
        rw [pk_lRem (by omega) hb0 (by omega)]
        refine lv_lstore (lv' := [(8, .long (lN (a9 % b9))), (0, .ref (a 22)), (1, .int (nI j)), (2, .int r), (4, .long (lN a9)), (6, .long (lN b9))]) hx hb dD_modulus_87 hl (by decide) rfl (fun ls hl => ?_)
        refine lv_lload hx hb dD_modulus_89 (lv_at hl 5 rfl) ?_
        refine lv_lstore (lv' := [(4, .long (lN b9)), (8, .long (lN (a9 % b9))), (0, .ref (a 22)), (1, .int (nI j)), (2, .int r), (6, .long (lN b9))]) hx hb dD_modulus_91 hl (by decide) rfl (fun ls hl => ?_)
        refine lv_lload hx hb dD_modulus_93 (lv_at hl 1 rfl) ?_
        refine lv_lstore (lv' := [(6, .long (lN (a9 % b9))), (4, .long (lN b9)), (8, .long (lN (a9 % b9))), (0, .ref (a 22)), (1, .int (nI j)), (2, .int r)]) hx hb dD_modulus_95 hl (by decide) rfl (fun ls hl => ?_)
        refine lv_goto (tgt := 75) hx hb dD_modulus_97 (by decide) ?_
        exact ih75 k8 (by omega) b9 (a9 % b9) hb2 (by have := Nat.mod_lt a9 hb0; omega) (by have := Nat.mod_lt a9 hb0; omega) ((gcd_step a9 b9).trans hg) _ _ _ hG hS (lv_sub hl [3, 4, 5, 1, 0] rfl)
  exact loop75 U L U hL2 hU2 (Nat.le_refl _) rfl _ _ _ hG hS (lv_sub hl [3, 4, 5, 1, 0] rfl)

abbrev rmD_join_p : Room := { frames := 2, cells := 0, slots := 0, locals := 43 }
set_option maxRecDepth 100000 in
set_option maxHeartbeats 4000000 in
theorem kD_join_p {l : Launch} {D : va_G} {k : ClassId × ClassId × ClassId} {a : Nat → Nat} {B0 : Nat} {w : Nat → va_E} (hA : gA B0 a) {th : Int32} {n : Nat} {nr : Nat} {nf : Nat} {bw : Int32} {bd : Int32} {nt : Nat} {rd : Nat → Int32} {ma : Nat → Int32} {mb : Nat → Int32} {mc : Nat → Int32} {co : Nat → Int32} {jn : Nat → Int32} {ro : Nat → Int32} (hsD : sD k a w th n nr nf bw bd nt) (hsDP : sDP k a w rd ma mb mc co jn ro) (q : Int32) (r : Int32) (P : Prop) (hq : ¬ rngI q 0 (nI n - 1)) : Met l yD_join (tbw yD_join cD_join 5 none) rmD_join_p (gPc D k a B0 w [.ref (a 22), .int q, .int r, .int (b2i P)]) (va_Qv (fun w1 => (sD k a w1 1 n nr nf bw bd nt) ∧ (sDP k a w1 rd ma mb mc co jn ro) ∧ ∀ z, z < 22 ∨ 29 < z → w1 z = w z) (gB D k a) (gF B0)) 0 0 (gF B0) := by
  have hsD22 := hsD
  obtain ⟨hsDP23, hsDP24, hsDP25, hsDP26, hsDP27, hsDP28, hsDP29⟩ := hsDP
  refine g_ofW (by decide) rfl (fun p e s m args below meth c Q hQ hx hb hr hlk hml hown hts hB hG hK hS ls hl => ?_)
  have hl : lv_has ls 5 [(0, .ref (a 22)), (1, .int q), (2, .int r), (3, .int (b2i P))] := hl
  have hown : s.vm.findClass RD = some m.cls := hown
  have hfr0 : ∀ z, z < 22 ∨ 29 < z → w z = w z := fun _ _ => rfl
  refine lv_aload_n hx hb dD_join_0 rfl (lv_at hl 0 rfl) ?_
  refine lv_iload_n hx hb dD_join_1 rfl (lv_at hl 1 rfl) ?_
  refine g_ViR (i := 22) (As := [.int q]) (rest := []) (kD_isPart hA hsD22 q) calD_isPart cvD_isPart mlD_85 hx hb hml hown hts hB hG hK hS (by decide) hsD22 rfl ⟨by decide, by decide⟩ rfl hl.1 rfl (Nat.le_of_ble_eq_true rfl) dD_join_2 ⟨by decide, by decide⟩ (fun H locs hG hS => ?_)
  refine lb_if_eq (tgt := 21) hx hb dD_join_5 (by decide) (fun _ => ?_) (fun h9 => absurd h9 hq)
  refine lv_iconst (v := 1) hx hb dD_join_21 (by decide) ?_
  refine lv_goto (tgt := 26) hx hb dD_join_22 (by decide) ?_
  refine lv_istore (lv' := [(4, .int 1), (0, .ref (a 22)), (1, .int q), (2, .int r), (3, .int (b2i P))]) hx hb dD_join_26 hl (by decide) rfl (fun ls hl => ?_)
  refine lv_aload_n hx hb dD_join_28 rfl (lv_at hl 1 rfl) ?_
  refine lv_iload hx hb dD_join_29 (lv_at hl 0 rfl) ?_
  refine lv_iload hx hb dD_join_31 (lv_at hl 0 rfl) ?_
  refine lv_if_ne (tgt := 71) hx hb dD_join_33 (by decide) (fun _ => ?_) (fun h9 => absurd h9 (by decide))
  refine lv_iconst (v := 0) hx hb dD_join_71 (by decide) ?_
  refine lv_iconst (v := 0) hx hb dD_join_72 (by decide) ?_
  refine g_Vi (i := 22) (As := [.int 1, .int 0, .int 0]) (rest := []) (kD_throwing hA hsD22 1 0 0) calD_throwing cvD_throwing mlD_77 hx hb hml hown hts hB hG hK hS (by decide) hsD22 rfl ⟨by decide, by decide⟩ rfl hl.1 rfl (Nat.le_of_ble_eq_true rfl) dD_join_73 ⟨by decide, by decide⟩ (fun r3 w4 H locs hp5 hG hS => ?_)
  obtain ⟨er7, h6, hfr8⟩ := hp5
  have h9 : w4 23 = .inl (k.2.2, 12, .inl rd) := (hfr8 23 (by omega)).trans hsDP23
  have h10 : w4 24 = .inl (k.1, 12, .inl ma) := (hfr8 24 (by omega)).trans hsDP24
  have h11 : w4 25 = .inl (k.1, 12, .inl mb) := (hfr8 25 (by omega)).trans hsDP25
  have h12 : w4 26 = .inl (k.1, 12, .inl mc) := (hfr8 26 (by omega)).trans hsDP26
  have h13 : w4 27 = .inl (k.1, 72, .inl co) := (hfr8 27 (by omega)).trans hsDP27
  have h14 : w4 28 = .inl (k.1, 12, .inl jn) := (hfr8 28 (by omega)).trans hsDP28
  have h15 : w4 29 = .inl (k.1, 12, .inl ro) := (hfr8 29 (by omega)).trans hsDP29
  have hfr16 : ∀ z, z < 22 ∨ 29 < z → w4 z = w z := fun z hz => (hfr8 z (by omega)).trans (hfr0 z hz)
  rw [er7]
  refine lb_if_eq (tgt := 80) hx hb dD_join_76 (by decide) (fun h9 => absurd (by decide) h9) (fun _ => ?_)
  exact g_vret hQ hx hb hr hlk hG hK hS (by decide) (by decide) ⟨h6, ⟨h9, h10, h11, h12, h13, h14, h15⟩, hfr16⟩ dD_join_79

abbrev rmD_join_r : Room := { frames := 2, cells := 0, slots := 0, locals := 43 }
set_option maxRecDepth 100000 in
set_option maxHeartbeats 4000000 in
theorem kD_join_r {l : Launch} {D : va_G} {k : ClassId × ClassId × ClassId} {a : Nat → Nat} {B0 : Nat} {w : Nat → va_E} (hA : gA B0 a) {th : Int32} {n : Nat} {nr : Nat} {nf : Nat} {bw : Int32} {bd : Int32} {nt : Nat} {rd : Nat → Int32} {ma : Nat → Int32} {mb : Nat → Int32} {mc : Nat → Int32} {co : Nat → Int32} {jn : Nat → Int32} {ro : Nat → Int32} (hsD : sD k a w th n nr nf bw bd nt) (hsDP : sDP k a w rd ma mb mc co jn ro) (j : Nat) (q : Int32) (P : Prop) (hj : j < n) (hn : n ≤ 12) (hq : ¬ rngI q 0 (nI n - 1)) : Met l yD_join (tbw yD_join cD_join 5 none) rmD_join_r (gPc D k a B0 w [.ref (a 22), .int (nI j), .int q, .int (b2i P)]) (va_Qv (fun w1 => (sD k a w1 1 n nr nf bw bd nt) ∧ (sDP k a w1 rd ma mb mc co jn ro) ∧ ∀ z, z < 22 ∨ 29 < z → w1 z = w z) (gB D k a) (gF B0)) 0 0 (gF B0) := by
  have hsD22 := hsD
  obtain ⟨hsDP23, hsDP24, hsDP25, hsDP26, hsDP27, hsDP28, hsDP29⟩ := hsDP
  refine g_ofW (by decide) rfl (fun p e s m args below meth c Q hQ hx hb hr hlk hml hown hts hB hG hK hS ls hl => ?_)
  have hl : lv_has ls 5 [(0, .ref (a 22)), (1, .int (nI j)), (2, .int q), (3, .int (b2i P))] := hl
  have hown : s.vm.findClass RD = some m.cls := hown
  have hfr0 : ∀ z, z < 22 ∨ 29 < z → w z = w z := fun _ _ => rfl
  refine lv_aload_n hx hb dD_join_0 rfl (lv_at hl 0 rfl) ?_
  refine lv_iload_n hx hb dD_join_1 rfl (lv_at hl 1 rfl) ?_
  refine g_ViR (i := 22) (As := [.int (nI j)]) (rest := []) (kD_isPart hA hsD22 (nI j)) calD_isPart cvD_isPart mlD_85 hx hb hml hown hts hB hG hK hS (by decide) hsD22 rfl ⟨by decide, by decide⟩ rfl hl.1 rfl (Nat.le_of_ble_eq_true rfl) dD_join_2 ⟨by decide, by decide⟩ (fun H locs hG hS => ?_)
  refine lb_if_eq (tgt := 21) hx hb dD_join_5 (by decide) (fun h9 => absurd (rng_part hj (by omega)) h9) (fun _ => ?_)
  refine lv_aload_n hx hb dD_join_8 rfl (lv_at hl 0 rfl) ?_
  refine lv_iload_n hx hb dD_join_9 rfl (lv_at hl 2 rfl) ?_
  refine g_ViR (i := 22) (As := [.int q]) (rest := []) (kD_isPart hA hsD22 q) calD_isPart cvD_isPart mlD_85 hx hb hml hown hts hB hG hK hS (by decide) hsD22 rfl ⟨by decide, by decide⟩ rfl hl.1 rfl (Nat.le_of_ble_eq_true rfl) dD_join_10 ⟨by decide, by decide⟩ (fun H locs hG hS => ?_)
  refine lb_if_eq (tgt := 21) hx hb dD_join_13 (by decide) (fun _ => ?_) (fun h9 => absurd h9 hq)
  refine lv_iconst (v := 1) hx hb dD_join_21 (by decide) ?_
  refine lv_goto (tgt := 26) hx hb dD_join_22 (by decide) ?_
  refine lv_istore (lv' := [(4, .int 1), (0, .ref (a 22)), (1, .int (nI j)), (2, .int q), (3, .int (b2i P))]) hx hb dD_join_26 hl (by decide) rfl (fun ls hl => ?_)
  refine lv_aload_n hx hb dD_join_28 rfl (lv_at hl 1 rfl) ?_
  refine lv_iload hx hb dD_join_29 (lv_at hl 0 rfl) ?_
  refine lv_iload hx hb dD_join_31 (lv_at hl 0 rfl) ?_
  refine lv_if_ne (tgt := 71) hx hb dD_join_33 (by decide) (fun _ => ?_) (fun h9 => absurd h9 (by decide))
  refine lv_iconst (v := 0) hx hb dD_join_71 (by decide) ?_
  refine lv_iconst (v := 0) hx hb dD_join_72 (by decide) ?_
  refine g_Vi (i := 22) (As := [.int 1, .int 0, .int 0]) (rest := []) (kD_throwing hA hsD22 1 0 0) calD_throwing cvD_throwing mlD_77 hx hb hml hown hts hB hG hK hS (by decide) hsD22 rfl ⟨by decide, by decide⟩ rfl hl.1 rfl (Nat.le_of_ble_eq_true rfl) dD_join_73 ⟨by decide, by decide⟩ (fun r4 w5 H locs hp6 hG hS => ?_)
  obtain ⟨er8, h7, hfr9⟩ := hp6
  have h10 : w5 23 = .inl (k.2.2, 12, .inl rd) := (hfr9 23 (by omega)).trans hsDP23
  have h11 : w5 24 = .inl (k.1, 12, .inl ma) := (hfr9 24 (by omega)).trans hsDP24
  have h12 : w5 25 = .inl (k.1, 12, .inl mb) := (hfr9 25 (by omega)).trans hsDP25
  have h13 : w5 26 = .inl (k.1, 12, .inl mc) := (hfr9 26 (by omega)).trans hsDP26
  have h14 : w5 27 = .inl (k.1, 72, .inl co) := (hfr9 27 (by omega)).trans hsDP27
  have h15 : w5 28 = .inl (k.1, 12, .inl jn) := (hfr9 28 (by omega)).trans hsDP28
  have h16 : w5 29 = .inl (k.1, 12, .inl ro) := (hfr9 29 (by omega)).trans hsDP29
  have hfr17 : ∀ z, z < 22 ∨ 29 < z → w5 z = w z := fun z hz => (hfr9 z (by omega)).trans (hfr0 z hz)
  rw [er8]
  refine lb_if_eq (tgt := 80) hx hb dD_join_76 (by decide) (fun h9 => absurd (by decide) h9) (fun _ => ?_)
  exact g_vret hQ hx hb hr hlk hG hK hS (by decide) (by decide) ⟨h7, ⟨h10, h11, h12, h13, h14, h15, h16⟩, hfr17⟩ dD_join_79

abbrev rmD_join_s : Room := { frames := 2, cells := 0, slots := 0, locals := 43 }
set_option maxRecDepth 100000 in
set_option maxHeartbeats 4000000 in
theorem kD_join_s {l : Launch} {D : va_G} {k : ClassId × ClassId × ClassId} {a : Nat → Nat} {B0 : Nat} {w : Nat → va_E} (hA : gA B0 a) {th : Int32} {n : Nat} {nr : Nat} {nf : Nat} {bw : Int32} {bd : Int32} {nt : Nat} {rd : Nat → Int32} {ma : Nat → Int32} {mb : Nat → Int32} {mc : Nat → Int32} {co : Nat → Int32} {jn : Nat → Int32} {ro : Nat → Int32} (hsD : sD k a w th n nr nf bw bd nt) (hsDP : sDP k a w rd ma mb mc co jn ro) (j : Nat) (i : Nat) (P : Prop) (hj : j < n) (hn : n ≤ 12) (hi : i < n) (hji : j = i) : Met l yD_join (tbw yD_join cD_join 5 none) rmD_join_s (gPc D k a B0 w [.ref (a 22), .int (nI j), .int (nI i), .int (b2i P)]) (va_Qv (fun w1 => (sD k a w1 1 n nr nf bw bd nt) ∧ (sDP k a w1 rd ma mb mc co jn ro) ∧ ∀ z, z < 22 ∨ 29 < z → w1 z = w z) (gB D k a) (gF B0)) 0 0 (gF B0) := by
  have hsD22 := hsD
  obtain ⟨hsDP23, hsDP24, hsDP25, hsDP26, hsDP27, hsDP28, hsDP29⟩ := hsDP
  refine g_ofW (by decide) rfl (fun p e s m args below meth c Q hQ hx hb hr hlk hml hown hts hB hG hK hS ls hl => ?_)
  have hl : lv_has ls 5 [(0, .ref (a 22)), (1, .int (nI j)), (2, .int (nI i)), (3, .int (b2i P))] := hl
  have hown : s.vm.findClass RD = some m.cls := hown
  have hfr0 : ∀ z, z < 22 ∨ 29 < z → w z = w z := fun _ _ => rfl
  refine lv_aload_n hx hb dD_join_0 rfl (lv_at hl 0 rfl) ?_
  refine lv_iload_n hx hb dD_join_1 rfl (lv_at hl 1 rfl) ?_
  refine g_ViR (i := 22) (As := [.int (nI j)]) (rest := []) (kD_isPart hA hsD22 (nI j)) calD_isPart cvD_isPart mlD_85 hx hb hml hown hts hB hG hK hS (by decide) hsD22 rfl ⟨by decide, by decide⟩ rfl hl.1 rfl (Nat.le_of_ble_eq_true rfl) dD_join_2 ⟨by decide, by decide⟩ (fun H locs hG hS => ?_)
  refine lb_if_eq (tgt := 21) hx hb dD_join_5 (by decide) (fun h9 => absurd (rng_part hj (by omega)) h9) (fun _ => ?_)
  refine lv_aload_n hx hb dD_join_8 rfl (lv_at hl 0 rfl) ?_
  refine lv_iload_n hx hb dD_join_9 rfl (lv_at hl 2 rfl) ?_
  refine g_ViR (i := 22) (As := [.int (nI i)]) (rest := []) (kD_isPart hA hsD22 (nI i)) calD_isPart cvD_isPart mlD_85 hx hb hml hown hts hB hG hK hS (by decide) hsD22 rfl ⟨by decide, by decide⟩ rfl hl.1 rfl (Nat.le_of_ble_eq_true rfl) dD_join_10 ⟨by decide, by decide⟩ (fun H locs hG hS => ?_)
  refine lb_if_eq (tgt := 21) hx hb dD_join_13 (by decide) (fun h9 => absurd (rng_part hi (by omega)) h9) (fun _ => ?_)
  refine lv_iload_n hx hb dD_join_16 rfl (lv_at hl 1 rfl) ?_
  refine lv_iload_n hx hb dD_join_17 rfl (lv_at hl 2 rfl) ?_
  refine ln_icmp_ne (x := j) (y := i) (tgt := 25) hx hb dD_join_18 (by decide) (by omega) (by omega) (fun c3 => (absurd hji c3)) (fun c3 => ?_)
  refine lv_iconst (v := 1) hx hb dD_join_21 (by decide) ?_
  refine lv_goto (tgt := 26) hx hb dD_join_22 (by decide) ?_
  refine lv_istore (lv' := [(4, .int 1), (0, .ref (a 22)), (1, .int (nI j)), (2, .int (nI i)), (3, .int (b2i P))]) hx hb dD_join_26 hl (by decide) rfl (fun ls hl => ?_)
  refine lv_aload_n hx hb dD_join_28 rfl (lv_at hl 1 rfl) ?_
  refine lv_iload hx hb dD_join_29 (lv_at hl 0 rfl) ?_
  refine lv_iload hx hb dD_join_31 (lv_at hl 0 rfl) ?_
  refine lv_if_ne (tgt := 71) hx hb dD_join_33 (by decide) (fun _ => ?_) (fun h9 => absurd h9 (by decide))
  refine lv_iconst (v := 0) hx hb dD_join_71 (by decide) ?_
  refine lv_iconst (v := 0) hx hb dD_join_72 (by decide) ?_
  refine g_Vi (i := 22) (As := [.int 1, .int 0, .int 0]) (rest := []) (kD_throwing hA hsD22 1 0 0) calD_throwing cvD_throwing mlD_77 hx hb hml hown hts hB hG hK hS (by decide) hsD22 rfl ⟨by decide, by decide⟩ rfl hl.1 rfl (Nat.le_of_ble_eq_true rfl) dD_join_73 ⟨by decide, by decide⟩ (fun r5 w6 H locs hp7 hG hS => ?_)
  obtain ⟨er9, h8, hfr10⟩ := hp7
  have h11 : w6 23 = .inl (k.2.2, 12, .inl rd) := (hfr10 23 (by omega)).trans hsDP23
  have h12 : w6 24 = .inl (k.1, 12, .inl ma) := (hfr10 24 (by omega)).trans hsDP24
  have h13 : w6 25 = .inl (k.1, 12, .inl mb) := (hfr10 25 (by omega)).trans hsDP25
  have h14 : w6 26 = .inl (k.1, 12, .inl mc) := (hfr10 26 (by omega)).trans hsDP26
  have h15 : w6 27 = .inl (k.1, 72, .inl co) := (hfr10 27 (by omega)).trans hsDP27
  have h16 : w6 28 = .inl (k.1, 12, .inl jn) := (hfr10 28 (by omega)).trans hsDP28
  have h17 : w6 29 = .inl (k.1, 12, .inl ro) := (hfr10 29 (by omega)).trans hsDP29
  have hfr18 : ∀ z, z < 22 ∨ 29 < z → w6 z = w z := fun z hz => (hfr10 z (by omega)).trans (hfr0 z hz)
  rw [er9]
  refine lb_if_eq (tgt := 80) hx hb dD_join_76 (by decide) (fun h9 => absurd (by decide) h9) (fun _ => ?_)
  exact g_vret hQ hx hb hr hlk hG hK hS (by decide) (by decide) ⟨h8, ⟨h11, h12, h13, h14, h15, h16, h17⟩, hfr18⟩ dD_join_79

abbrev rmD_join_e : Room := { frames := 2, cells := 0, slots := 0, locals := 43 }
set_option maxRecDepth 100000 in
set_option maxHeartbeats 4000000 in
theorem kD_join_e {l : Launch} {D : va_G} {k : ClassId × ClassId × ClassId} {a : Nat → Nat} {B0 : Nat} {w : Nat → va_E} (hA : gA B0 a) {th : Int32} {n : Nat} {nr : Nat} {nf : Nat} {bw : Int32} {bd : Int32} {nt : Nat} {rd : Nat → Int32} {ma : Nat → Int32} {mb : Nat → Int32} {mc : Nat → Int32} {co : Nat → Int32} {jn : Nat → Int32} {ro : Nat → Int32} (hsD : sD k a w th n nr nf bw bd nt) (hsDP : sDP k a w rd ma mb mc co jn ro) (j : Nat) (i : Nat) (P : Prop) (hj : j < n) (hn : n ≤ 12) (hi : i < n) (hji : ¬ j = i) (he : (jn j >>> (nI i &&& 31)) &&& 1 = b2i P) : Met l yD_join (tbw yD_join cD_join 5 none) rmD_join_e (gPc D k a B0 w [.ref (a 22), .int (nI j), .int (nI i), .int (b2i P)]) (va_Qv (fun w1 => (sD k a w1 2 n nr nf bw bd nt) ∧ (sDP k a w1 rd ma mb mc co jn ro) ∧ ∀ z, z < 22 ∨ 29 < z → w1 z = w z) (gB D k a) (gF B0)) 0 0 (gF B0) := by
  have hsD22 := hsD
  obtain ⟨hsDP23, hsDP24, hsDP25, hsDP26, hsDP27, hsDP28, hsDP29⟩ := hsDP
  refine g_ofW (by decide) rfl (fun p e s m args below meth c Q hQ hx hb hr hlk hml hown hts hB hG hK hS ls hl => ?_)
  have hl : lv_has ls 5 [(0, .ref (a 22)), (1, .int (nI j)), (2, .int (nI i)), (3, .int (b2i P))] := hl
  have hown : s.vm.findClass RD = some m.cls := hown
  have hfr0 : ∀ z, z < 22 ∨ 29 < z → w z = w z := fun _ _ => rfl
  refine lv_aload_n hx hb dD_join_0 rfl (lv_at hl 0 rfl) ?_
  refine lv_iload_n hx hb dD_join_1 rfl (lv_at hl 1 rfl) ?_
  refine g_ViR (i := 22) (As := [.int (nI j)]) (rest := []) (kD_isPart hA hsD22 (nI j)) calD_isPart cvD_isPart mlD_85 hx hb hml hown hts hB hG hK hS (by decide) hsD22 rfl ⟨by decide, by decide⟩ rfl hl.1 rfl (Nat.le_of_ble_eq_true rfl) dD_join_2 ⟨by decide, by decide⟩ (fun H locs hG hS => ?_)
  refine lb_if_eq (tgt := 21) hx hb dD_join_5 (by decide) (fun h9 => absurd (rng_part hj (by omega)) h9) (fun _ => ?_)
  refine lv_aload_n hx hb dD_join_8 rfl (lv_at hl 0 rfl) ?_
  refine lv_iload_n hx hb dD_join_9 rfl (lv_at hl 2 rfl) ?_
  refine g_ViR (i := 22) (As := [.int (nI i)]) (rest := []) (kD_isPart hA hsD22 (nI i)) calD_isPart cvD_isPart mlD_85 hx hb hml hown hts hB hG hK hS (by decide) hsD22 rfl ⟨by decide, by decide⟩ rfl hl.1 rfl (Nat.le_of_ble_eq_true rfl) dD_join_10 ⟨by decide, by decide⟩ (fun H locs hG hS => ?_)
  refine lb_if_eq (tgt := 21) hx hb dD_join_13 (by decide) (fun h9 => absurd (rng_part hi (by omega)) h9) (fun _ => ?_)
  refine lv_iload_n hx hb dD_join_16 rfl (lv_at hl 1 rfl) ?_
  refine lv_iload_n hx hb dD_join_17 rfl (lv_at hl 2 rfl) ?_
  refine ln_icmp_ne (x := j) (y := i) (tgt := 25) hx hb dD_join_18 (by decide) (by omega) (by omega) (fun c3 => ?_) (fun c3 => (absurd c3 hji))
  refine lv_iconst (v := 0) hx hb dD_join_25 (by decide) ?_
  refine lv_istore (lv' := [(4, .int 0), (0, .ref (a 22)), (1, .int (nI j)), (2, .int (nI i)), (3, .int (b2i P))]) hx hb dD_join_26 hl (by decide) rfl (fun ls hl => ?_)
  refine lv_aload_n hx hb dD_join_28 rfl (lv_at hl 1 rfl) ?_
  refine lv_iload hx hb dD_join_29 (lv_at hl 0 rfl) ?_
  refine lv_iload hx hb dD_join_31 (lv_at hl 0 rfl) ?_
  refine lv_if_ne (tgt := 71) hx hb dD_join_33 (by decide) (fun h9 => absurd h9 (by decide)) (fun _ => ?_)
  refine lv_aload_n hx hb dD_join_36 rfl (lv_at hl 1 rfl) ?_
  refine g_get hx hb hts inD hown hK hG 22 (by decide) hsD22 rfl 7 (by decide) lkD_26 rfl dD_join_37 ?_
  refine lv_iload hx hb dD_join_40 (lv_at hl 0 rfl) ?_
  refine lv_if_eq (tgt := 49) hx hb dD_join_42 (by decide) (fun _ => ?_) (fun h9 => absurd h9 (by decide))
  refine lv_iload_n hx hb dD_join_49 rfl (lv_at hl 2 rfl) ?_
  refine g_iald hx hb hK hG 28 (by decide) hsDP28 (j := j) (by omega) (by decide) dD_join_50 ?_
  refine lv_iload_n hx hb dD_join_51 rfl (lv_at hl 3 rfl) ?_
  refine lv_ishr hx hb dD_join_52 ?_
  refine lv_iconst (v := 1) hx hb dD_join_53 (by decide) ?_
  refine lv_iand hx hb dD_join_54 ?_
  refine lv_iload_n hx hb dD_join_55 rfl (lv_at hl 4 rfl) ?_
  refine lb_if_eq (tgt := 63) hx hb dD_join_56 (by decide) (fun c6 => ?_) (fun c6 => ?_)
  · refine lv_iconst (v := 0) hx hb dD_join_63 (by decide) ?_
    refine lv_icmp_ne (tgt := 71) hx hb dD_join_64 (by decide) (fun c7 => (absurd (he.trans (by first | exact b2i_t (by assumption) | exact b2i_f (by assumption))) c7)) (fun c7 => ?_)
    refine lv_iconst (v := 1) hx hb dD_join_67 (by decide) ?_
    refine lv_goto (tgt := 72) hx hb dD_join_68 (by decide) ?_
    refine lv_iconst (v := 0) hx hb dD_join_72 (by decide) ?_
    refine g_Vi (i := 22) (As := [.int 0, .int 1, .int 0]) (rest := []) (kD_throwing hA hsD22 0 1 0) calD_throwing cvD_throwing mlD_77 hx hb hml hown hts hB hG hK hS (by decide) hsD22 rfl ⟨by decide, by decide⟩ rfl hl.1 rfl (Nat.le_of_ble_eq_true rfl) dD_join_73 ⟨by decide, by decide⟩ (fun r8 w9 H locs hp10 hG hS => ?_)
    obtain ⟨er12, h11, hfr13⟩ := hp10
    have h14 : w9 23 = .inl (k.2.2, 12, .inl rd) := (hfr13 23 (by omega)).trans hsDP23
    have h15 : w9 24 = .inl (k.1, 12, .inl ma) := (hfr13 24 (by omega)).trans hsDP24
    have h16 : w9 25 = .inl (k.1, 12, .inl mb) := (hfr13 25 (by omega)).trans hsDP25
    have h17 : w9 26 = .inl (k.1, 12, .inl mc) := (hfr13 26 (by omega)).trans hsDP26
    have h18 : w9 27 = .inl (k.1, 72, .inl co) := (hfr13 27 (by omega)).trans hsDP27
    have h19 : w9 28 = .inl (k.1, 12, .inl jn) := (hfr13 28 (by omega)).trans hsDP28
    have h20 : w9 29 = .inl (k.1, 12, .inl ro) := (hfr13 29 (by omega)).trans hsDP29
    have hfr21 : ∀ z, z < 22 ∨ 29 < z → w9 z = w z := fun z hz => (hfr13 z (by omega)).trans (hfr0 z hz)
    rw [er12]
    refine lb_if_eq (tgt := 80) hx hb dD_join_76 (by decide) (fun h9 => absurd (by decide) h9) (fun _ => ?_)
    exact g_vret hQ hx hb hr hlk hG hK hS (by decide) (by decide) ⟨h11, ⟨h14, h15, h16, h17, h18, h19, h20⟩, hfr21⟩ dD_join_79
  · refine lv_iconst (v := 1) hx hb dD_join_59 (by decide) ?_
    refine lv_goto (tgt := 64) hx hb dD_join_60 (by decide) ?_
    refine lv_icmp_ne (tgt := 71) hx hb dD_join_64 (by decide) (fun c23 => (absurd (he.trans (by first | exact b2i_t (by assumption) | exact b2i_f (by assumption))) c23)) (fun c23 => ?_)
    refine lv_iconst (v := 1) hx hb dD_join_67 (by decide) ?_
    refine lv_goto (tgt := 72) hx hb dD_join_68 (by decide) ?_
    refine lv_iconst (v := 0) hx hb dD_join_72 (by decide) ?_
    refine g_Vi (i := 22) (As := [.int 0, .int 1, .int 0]) (rest := []) (kD_throwing hA hsD22 0 1 0) calD_throwing cvD_throwing mlD_77 hx hb hml hown hts hB hG hK hS (by decide) hsD22 rfl ⟨by decide, by decide⟩ rfl hl.1 rfl (Nat.le_of_ble_eq_true rfl) dD_join_73 ⟨by decide, by decide⟩ (fun r24 w25 H locs hp26 hG hS => ?_)
    obtain ⟨er28, h27, hfr29⟩ := hp26
    have h30 : w25 23 = .inl (k.2.2, 12, .inl rd) := (hfr29 23 (by omega)).trans hsDP23
    have h31 : w25 24 = .inl (k.1, 12, .inl ma) := (hfr29 24 (by omega)).trans hsDP24
    have h32 : w25 25 = .inl (k.1, 12, .inl mb) := (hfr29 25 (by omega)).trans hsDP25
    have h33 : w25 26 = .inl (k.1, 12, .inl mc) := (hfr29 26 (by omega)).trans hsDP26
    have h34 : w25 27 = .inl (k.1, 72, .inl co) := (hfr29 27 (by omega)).trans hsDP27
    have h35 : w25 28 = .inl (k.1, 12, .inl jn) := (hfr29 28 (by omega)).trans hsDP28
    have h36 : w25 29 = .inl (k.1, 12, .inl ro) := (hfr29 29 (by omega)).trans hsDP29
    have hfr37 : ∀ z, z < 22 ∨ 29 < z → w25 z = w z := fun z hz => (hfr29 z (by omega)).trans (hfr0 z hz)
    rw [er28]
    refine lb_if_eq (tgt := 80) hx hb dD_join_76 (by decide) (fun h9 => absurd (by decide) h9) (fun _ => ?_)
    exact g_vret hQ hx hb hr hlk hG hK hS (by decide) (by decide) ⟨h27, ⟨h30, h31, h32, h33, h34, h35, h36⟩, hfr37⟩ dD_join_79

abbrev rmD_join_k : Room := { frames := 2, cells := 0, slots := 0, locals := 43 }
set_option maxRecDepth 100000 in
set_option maxHeartbeats 4000000 in
theorem kD_join_k {l : Launch} {D : va_G} {k : ClassId × ClassId × ClassId} {a : Nat → Nat} {B0 : Nat} {w : Nat → va_E} (hA : gA B0 a) {th : Int32} {n : Nat} {nr : Nat} {nf : Nat} {bw : Int32} {bd : Int32} {nt : Nat} {rd : Nat → Int32} {ma : Nat → Int32} {mb : Nat → Int32} {mc : Nat → Int32} {co : Nat → Int32} {jn : Nat → Int32} {ro : Nat → Int32} (hsD : sD k a w th n nr nf bw bd nt) (hsDP : sDP k a w rd ma mb mc co jn ro) (j : Nat) (i : Nat) (P : Prop) (hj : j < n) (hn : n ≤ 12) (hi : i < n) (hji : ¬ j = i) (hne : ¬ (jn j >>> (nI i &&& 31)) &&& 1 = b2i P) : Met l yD_join (tbw yD_join cD_join 5 none) rmD_join_k (gPc D k a B0 w [.ref (a 22), .int (nI j), .int (nI i), .int (b2i P)]) (va_Qv (fun w1 => (sD k a w1 0 n nr nf bw bd nt) ∧ (sDP k a w1 rd ma mb mc co (upd (upd jn j (jn j ^^^ (1 <<< (nI i &&& 31)))) i (upd jn j (jn j ^^^ (1 <<< (nI i &&& 31))) i ^^^ (1 <<< (nI j &&& 31)))) ro) ∧ ∀ z, z < 22 ∨ 29 < z → w1 z = w z) (gB D k a) (gF B0)) 0 0 (gF B0) := by
  have hsD22 := hsD
  obtain ⟨hsDP23, hsDP24, hsDP25, hsDP26, hsDP27, hsDP28, hsDP29⟩ := hsDP
  refine g_ofW (by decide) rfl (fun p e s m args below meth c Q hQ hx hb hr hlk hml hown hts hB hG hK hS ls hl => ?_)
  have hl : lv_has ls 5 [(0, .ref (a 22)), (1, .int (nI j)), (2, .int (nI i)), (3, .int (b2i P))] := hl
  have hown : s.vm.findClass RD = some m.cls := hown
  have hfr0 : ∀ z, z < 22 ∨ 29 < z → w z = w z := fun _ _ => rfl
  refine lv_aload_n hx hb dD_join_0 rfl (lv_at hl 0 rfl) ?_
  refine lv_iload_n hx hb dD_join_1 rfl (lv_at hl 1 rfl) ?_
  refine g_ViR (i := 22) (As := [.int (nI j)]) (rest := []) (kD_isPart hA hsD22 (nI j)) calD_isPart cvD_isPart mlD_85 hx hb hml hown hts hB hG hK hS (by decide) hsD22 rfl ⟨by decide, by decide⟩ rfl hl.1 rfl (Nat.le_of_ble_eq_true rfl) dD_join_2 ⟨by decide, by decide⟩ (fun H locs hG hS => ?_)
  refine lb_if_eq (tgt := 21) hx hb dD_join_5 (by decide) (fun h9 => absurd (rng_part hj (by omega)) h9) (fun _ => ?_)
  refine lv_aload_n hx hb dD_join_8 rfl (lv_at hl 0 rfl) ?_
  refine lv_iload_n hx hb dD_join_9 rfl (lv_at hl 2 rfl) ?_
  refine g_ViR (i := 22) (As := [.int (nI i)]) (rest := []) (kD_isPart hA hsD22 (nI i)) calD_isPart cvD_isPart mlD_85 hx hb hml hown hts hB hG hK hS (by decide) hsD22 rfl ⟨by decide, by decide⟩ rfl hl.1 rfl (Nat.le_of_ble_eq_true rfl) dD_join_10 ⟨by decide, by decide⟩ (fun H locs hG hS => ?_)
  refine lb_if_eq (tgt := 21) hx hb dD_join_13 (by decide) (fun h9 => absurd (rng_part hi (by omega)) h9) (fun _ => ?_)
  refine lv_iload_n hx hb dD_join_16 rfl (lv_at hl 1 rfl) ?_
  refine lv_iload_n hx hb dD_join_17 rfl (lv_at hl 2 rfl) ?_
  refine ln_icmp_ne (x := j) (y := i) (tgt := 25) hx hb dD_join_18 (by decide) (by omega) (by omega) (fun c3 => ?_) (fun c3 => (absurd c3 hji))
  refine lv_iconst (v := 0) hx hb dD_join_25 (by decide) ?_
  refine lv_istore (lv' := [(4, .int 0), (0, .ref (a 22)), (1, .int (nI j)), (2, .int (nI i)), (3, .int (b2i P))]) hx hb dD_join_26 hl (by decide) rfl (fun ls hl => ?_)
  refine lv_aload_n hx hb dD_join_28 rfl (lv_at hl 1 rfl) ?_
  refine lv_iload hx hb dD_join_29 (lv_at hl 0 rfl) ?_
  refine lv_iload hx hb dD_join_31 (lv_at hl 0 rfl) ?_
  refine lv_if_ne (tgt := 71) hx hb dD_join_33 (by decide) (fun h9 => absurd h9 (by decide)) (fun _ => ?_)
  refine lv_aload_n hx hb dD_join_36 rfl (lv_at hl 1 rfl) ?_
  refine g_get hx hb hts inD hown hK hG 22 (by decide) hsD22 rfl 7 (by decide) lkD_26 rfl dD_join_37 ?_
  refine lv_iload hx hb dD_join_40 (lv_at hl 0 rfl) ?_
  refine lv_if_eq (tgt := 49) hx hb dD_join_42 (by decide) (fun _ => ?_) (fun h9 => absurd h9 (by decide))
  refine lv_iload_n hx hb dD_join_49 rfl (lv_at hl 2 rfl) ?_
  refine g_iald hx hb hK hG 28 (by decide) hsDP28 (j := j) (by omega) (by decide) dD_join_50 ?_
  refine lv_iload_n hx hb dD_join_51 rfl (lv_at hl 3 rfl) ?_
  refine lv_ishr hx hb dD_join_52 ?_
  refine lv_iconst (v := 1) hx hb dD_join_53 (by decide) ?_
  refine lv_iand hx hb dD_join_54 ?_
  refine lv_iload_n hx hb dD_join_55 rfl (lv_at hl 4 rfl) ?_
  refine lb_if_eq (tgt := 63) hx hb dD_join_56 (by decide) (fun c6 => ?_) (fun c6 => ?_)
  · refine lv_iconst (v := 0) hx hb dD_join_63 (by decide) ?_
    refine lv_icmp_ne (tgt := 71) hx hb dD_join_64 (by decide) (fun c7 => ?_) (fun c7 => (absurd (c7.trans (by first | exact (b2i_t (by assumption)).symm | exact (b2i_f (by assumption)).symm)) hne))
    refine lv_iconst (v := 0) hx hb dD_join_71 (by decide) ?_
    refine lv_iconst (v := 0) hx hb dD_join_72 (by decide) ?_
    refine g_Vi (i := 22) (As := [.int 0, .int 0, .int 0]) (rest := []) (kD_throwing hA hsD22 0 0 0) calD_throwing cvD_throwing mlD_77 hx hb hml hown hts hB hG hK hS (by decide) hsD22 rfl ⟨by decide, by decide⟩ rfl hl.1 rfl (Nat.le_of_ble_eq_true rfl) dD_join_73 ⟨by decide, by decide⟩ (fun r8 w9 H locs hp10 hG hS => ?_)
    obtain ⟨er12, h11, hfr13⟩ := hp10
    have h14 : w9 23 = .inl (k.2.2, 12, .inl rd) := (hfr13 23 (by omega)).trans hsDP23
    have h15 : w9 24 = .inl (k.1, 12, .inl ma) := (hfr13 24 (by omega)).trans hsDP24
    have h16 : w9 25 = .inl (k.1, 12, .inl mb) := (hfr13 25 (by omega)).trans hsDP25
    have h17 : w9 26 = .inl (k.1, 12, .inl mc) := (hfr13 26 (by omega)).trans hsDP26
    have h18 : w9 27 = .inl (k.1, 72, .inl co) := (hfr13 27 (by omega)).trans hsDP27
    have h19 : w9 28 = .inl (k.1, 12, .inl jn) := (hfr13 28 (by omega)).trans hsDP28
    have h20 : w9 29 = .inl (k.1, 12, .inl ro) := (hfr13 29 (by omega)).trans hsDP29
    have hfr21 : ∀ z, z < 22 ∨ 29 < z → w9 z = w z := fun z hz => (hfr13 z (by omega)).trans (hfr0 z hz)
    rw [er12]
    refine lb_if_eq (tgt := 80) hx hb dD_join_76 (by decide) (fun _ => ?_) (fun h9 => absurd h9 (by decide))
    refine lv_aload_n hx hb dD_join_80 rfl (lv_at hl 1 rfl) ?_
    refine g_get hx hb hts inD hown hK hG 22 (by decide) h11 rfl 7 (by decide) lkD_26 rfl dD_join_81 ?_
    refine lv_iload_n hx hb dD_join_84 rfl (lv_at hl 2 rfl) ?_
    refine lv_dup2_11 hx hb dD_join_85 rfl rfl ?_
    refine g_iald hx hb hK hG 28 (by decide) h19 (j := j) (by omega) (by decide) dD_join_86 ?_
    refine lv_iconst (v := 1) hx hb dD_join_87 (by decide) ?_
    refine lv_iload_n hx hb dD_join_88 rfl (lv_at hl 3 rfl) ?_
    refine lv_ishl hx hb dD_join_89 ?_
    refine lv_ixor hx hb dD_join_90 ?_
    refine g_iast hx hb hK hA hG hS 28 (by decide) h19 (j := j) (by omega) (by decide) dD_join_91 (fun H locs hG hS => ?_)
    obtain ⟨w23, hw24⟩ : ∃ zz9, zz9 = va_up w9 28 (.inl (k.1, 12, .inl (upd jn j ((jn j) ^^^ (1 <<< ((nI i) &&& 31)))))) := ⟨_, rfl⟩
    replace hG : gW D a w23 H := by rw [hw24]; exact hG
    have h25 : w23 22 = .inr (5, [.int (thrI 0 0 0), .int (nI n), .ref (a 23), .ref (a 24), .ref (a 25), .ref (a 26), .ref (a 27), .ref (a 28), .ref (a 29), .int (nI nr), .ref (a 30), .ref (a 31), .int (nI nf), .ref (a 32), .ref (a 33), .int bw, .int bd, .int (nI nt), .ref (a 34), .ref (a 35), .ref (a 36), .ref (a 37)]) := by rw [hw24]; exact h11
    have h26 : w23 23 = .inl (k.2.2, 12, .inl rd) := by rw [hw24]; exact h14
    have h27 : w23 24 = .inl (k.1, 12, .inl ma) := by rw [hw24]; exact h15
    have h28 : w23 25 = .inl (k.1, 12, .inl mb) := by rw [hw24]; exact h16
    have h29 : w23 26 = .inl (k.1, 12, .inl mc) := by rw [hw24]; exact h17
    have h30 : w23 27 = .inl (k.1, 72, .inl co) := by rw [hw24]; exact h18
    have h31 : w23 28 = .inl (k.1, 12, .inl (upd jn j ((jn j) ^^^ (1 <<< ((nI i) &&& 31))))) := by rw [hw24]; rfl
    have h32 : w23 29 = .inl (k.1, 12, .inl ro) := by rw [hw24]; exact h20
    have hfr33 : ∀ z, z < 22 ∨ 29 < z → w23 z = w z := fun z hz => by rw [hw24]; exact (va_up_ne _ _ (by omega)).trans (hfr21 z hz)
    refine lv_aload_n hx hb dD_join_92 rfl (lv_at hl 1 rfl) ?_
    refine g_get hx hb hts inD hown hK hG 22 (by decide) h25 rfl 7 (by decide) lkD_26 rfl dD_join_93 ?_
    refine lv_iload_n hx hb dD_join_96 rfl (lv_at hl 3 rfl) ?_
    refine lv_dup2_11 hx hb dD_join_97 rfl rfl ?_
    refine g_iald hx hb hK hG 28 (by decide) h31 (j := i) (by omega) (by decide) dD_join_98 ?_
    refine lv_iconst (v := 1) hx hb dD_join_99 (by decide) ?_
    refine lv_iload_n hx hb dD_join_100 rfl (lv_at hl 2 rfl) ?_
    refine lv_ishl hx hb dD_join_101 ?_
    refine lv_ixor hx hb dD_join_102 ?_
    refine g_iast hx hb hK hA hG hS 28 (by decide) h31 (j := i) (by omega) (by decide) dD_join_103 (fun H locs hG hS => ?_)
    obtain ⟨w34, hw35⟩ : ∃ zz9, zz9 = va_up w23 28 (.inl (k.1, 12, .inl (upd (upd jn j ((jn j) ^^^ (1 <<< ((nI i) &&& 31)))) i ((upd jn j ((jn j) ^^^ (1 <<< ((nI i) &&& 31))) i) ^^^ (1 <<< ((nI j) &&& 31)))))) := ⟨_, rfl⟩
    replace hG : gW D a w34 H := by rw [hw35]; exact hG
    have h36 : w34 22 = .inr (5, [.int (thrI 0 0 0), .int (nI n), .ref (a 23), .ref (a 24), .ref (a 25), .ref (a 26), .ref (a 27), .ref (a 28), .ref (a 29), .int (nI nr), .ref (a 30), .ref (a 31), .int (nI nf), .ref (a 32), .ref (a 33), .int bw, .int bd, .int (nI nt), .ref (a 34), .ref (a 35), .ref (a 36), .ref (a 37)]) := by rw [hw35]; exact h25
    have h37 : w34 23 = .inl (k.2.2, 12, .inl rd) := by rw [hw35]; exact h26
    have h38 : w34 24 = .inl (k.1, 12, .inl ma) := by rw [hw35]; exact h27
    have h39 : w34 25 = .inl (k.1, 12, .inl mb) := by rw [hw35]; exact h28
    have h40 : w34 26 = .inl (k.1, 12, .inl mc) := by rw [hw35]; exact h29
    have h41 : w34 27 = .inl (k.1, 72, .inl co) := by rw [hw35]; exact h30
    have h42 : w34 28 = .inl (k.1, 12, .inl (upd (upd jn j ((jn j) ^^^ (1 <<< ((nI i) &&& 31)))) i ((upd jn j ((jn j) ^^^ (1 <<< ((nI i) &&& 31))) i) ^^^ (1 <<< ((nI j) &&& 31))))) := by rw [hw35]; rfl
    have h43 : w34 29 = .inl (k.1, 12, .inl ro) := by rw [hw35]; exact h32
    have hfr44 : ∀ z, z < 22 ∨ 29 < z → w34 z = w z := fun z hz => by rw [hw35]; exact (va_up_ne _ _ (by omega)).trans (hfr33 z hz)
    exact g_vret hQ hx hb hr hlk hG hK hS (by decide) (by decide) ⟨h36, ⟨h37, h38, h39, h40, h41, h42, h43⟩, hfr44⟩ dD_join_104
  · refine lv_iconst (v := 1) hx hb dD_join_59 (by decide) ?_
    refine lv_goto (tgt := 64) hx hb dD_join_60 (by decide) ?_
    refine lv_icmp_ne (tgt := 71) hx hb dD_join_64 (by decide) (fun c45 => ?_) (fun c45 => (absurd (c45.trans (by first | exact (b2i_t (by assumption)).symm | exact (b2i_f (by assumption)).symm)) hne))
    refine lv_iconst (v := 0) hx hb dD_join_71 (by decide) ?_
    refine lv_iconst (v := 0) hx hb dD_join_72 (by decide) ?_
    refine g_Vi (i := 22) (As := [.int 0, .int 0, .int 0]) (rest := []) (kD_throwing hA hsD22 0 0 0) calD_throwing cvD_throwing mlD_77 hx hb hml hown hts hB hG hK hS (by decide) hsD22 rfl ⟨by decide, by decide⟩ rfl hl.1 rfl (Nat.le_of_ble_eq_true rfl) dD_join_73 ⟨by decide, by decide⟩ (fun r46 w47 H locs hp48 hG hS => ?_)
    obtain ⟨er50, h49, hfr51⟩ := hp48
    have h52 : w47 23 = .inl (k.2.2, 12, .inl rd) := (hfr51 23 (by omega)).trans hsDP23
    have h53 : w47 24 = .inl (k.1, 12, .inl ma) := (hfr51 24 (by omega)).trans hsDP24
    have h54 : w47 25 = .inl (k.1, 12, .inl mb) := (hfr51 25 (by omega)).trans hsDP25
    have h55 : w47 26 = .inl (k.1, 12, .inl mc) := (hfr51 26 (by omega)).trans hsDP26
    have h56 : w47 27 = .inl (k.1, 72, .inl co) := (hfr51 27 (by omega)).trans hsDP27
    have h57 : w47 28 = .inl (k.1, 12, .inl jn) := (hfr51 28 (by omega)).trans hsDP28
    have h58 : w47 29 = .inl (k.1, 12, .inl ro) := (hfr51 29 (by omega)).trans hsDP29
    have hfr59 : ∀ z, z < 22 ∨ 29 < z → w47 z = w z := fun z hz => (hfr51 z (by omega)).trans (hfr0 z hz)
    rw [er50]
    refine lb_if_eq (tgt := 80) hx hb dD_join_76 (by decide) (fun _ => ?_) (fun h9 => absurd h9 (by decide))
    refine lv_aload_n hx hb dD_join_80 rfl (lv_at hl 1 rfl) ?_
    refine g_get hx hb hts inD hown hK hG 22 (by decide) h49 rfl 7 (by decide) lkD_26 rfl dD_join_81 ?_
    refine lv_iload_n hx hb dD_join_84 rfl (lv_at hl 2 rfl) ?_
    refine lv_dup2_11 hx hb dD_join_85 rfl rfl ?_
    refine g_iald hx hb hK hG 28 (by decide) h57 (j := j) (by omega) (by decide) dD_join_86 ?_
    refine lv_iconst (v := 1) hx hb dD_join_87 (by decide) ?_
    refine lv_iload_n hx hb dD_join_88 rfl (lv_at hl 3 rfl) ?_
    refine lv_ishl hx hb dD_join_89 ?_
    refine lv_ixor hx hb dD_join_90 ?_
    refine g_iast hx hb hK hA hG hS 28 (by decide) h57 (j := j) (by omega) (by decide) dD_join_91 (fun H locs hG hS => ?_)
    obtain ⟨w61, hw62⟩ : ∃ zz9, zz9 = va_up w47 28 (.inl (k.1, 12, .inl (upd jn j ((jn j) ^^^ (1 <<< ((nI i) &&& 31)))))) := ⟨_, rfl⟩
    replace hG : gW D a w61 H := by rw [hw62]; exact hG
    have h63 : w61 22 = .inr (5, [.int (thrI 0 0 0), .int (nI n), .ref (a 23), .ref (a 24), .ref (a 25), .ref (a 26), .ref (a 27), .ref (a 28), .ref (a 29), .int (nI nr), .ref (a 30), .ref (a 31), .int (nI nf), .ref (a 32), .ref (a 33), .int bw, .int bd, .int (nI nt), .ref (a 34), .ref (a 35), .ref (a 36), .ref (a 37)]) := by rw [hw62]; exact h49
    have h64 : w61 23 = .inl (k.2.2, 12, .inl rd) := by rw [hw62]; exact h52
    have h65 : w61 24 = .inl (k.1, 12, .inl ma) := by rw [hw62]; exact h53
    have h66 : w61 25 = .inl (k.1, 12, .inl mb) := by rw [hw62]; exact h54
    have h67 : w61 26 = .inl (k.1, 12, .inl mc) := by rw [hw62]; exact h55
    have h68 : w61 27 = .inl (k.1, 72, .inl co) := by rw [hw62]; exact h56
    have h69 : w61 28 = .inl (k.1, 12, .inl (upd jn j ((jn j) ^^^ (1 <<< ((nI i) &&& 31))))) := by rw [hw62]; rfl
    have h70 : w61 29 = .inl (k.1, 12, .inl ro) := by rw [hw62]; exact h58
    have hfr71 : ∀ z, z < 22 ∨ 29 < z → w61 z = w z := fun z hz => by rw [hw62]; exact (va_up_ne _ _ (by omega)).trans (hfr59 z hz)
    refine lv_aload_n hx hb dD_join_92 rfl (lv_at hl 1 rfl) ?_
    refine g_get hx hb hts inD hown hK hG 22 (by decide) h63 rfl 7 (by decide) lkD_26 rfl dD_join_93 ?_
    refine lv_iload_n hx hb dD_join_96 rfl (lv_at hl 3 rfl) ?_
    refine lv_dup2_11 hx hb dD_join_97 rfl rfl ?_
    refine g_iald hx hb hK hG 28 (by decide) h69 (j := i) (by omega) (by decide) dD_join_98 ?_
    refine lv_iconst (v := 1) hx hb dD_join_99 (by decide) ?_
    refine lv_iload_n hx hb dD_join_100 rfl (lv_at hl 2 rfl) ?_
    refine lv_ishl hx hb dD_join_101 ?_
    refine lv_ixor hx hb dD_join_102 ?_
    refine g_iast hx hb hK hA hG hS 28 (by decide) h69 (j := i) (by omega) (by decide) dD_join_103 (fun H locs hG hS => ?_)
    obtain ⟨w72, hw73⟩ : ∃ zz9, zz9 = va_up w61 28 (.inl (k.1, 12, .inl (upd (upd jn j ((jn j) ^^^ (1 <<< ((nI i) &&& 31)))) i ((upd jn j ((jn j) ^^^ (1 <<< ((nI i) &&& 31))) i) ^^^ (1 <<< ((nI j) &&& 31)))))) := ⟨_, rfl⟩
    replace hG : gW D a w72 H := by rw [hw73]; exact hG
    have h74 : w72 22 = .inr (5, [.int (thrI 0 0 0), .int (nI n), .ref (a 23), .ref (a 24), .ref (a 25), .ref (a 26), .ref (a 27), .ref (a 28), .ref (a 29), .int (nI nr), .ref (a 30), .ref (a 31), .int (nI nf), .ref (a 32), .ref (a 33), .int bw, .int bd, .int (nI nt), .ref (a 34), .ref (a 35), .ref (a 36), .ref (a 37)]) := by rw [hw73]; exact h63
    have h75 : w72 23 = .inl (k.2.2, 12, .inl rd) := by rw [hw73]; exact h64
    have h76 : w72 24 = .inl (k.1, 12, .inl ma) := by rw [hw73]; exact h65
    have h77 : w72 25 = .inl (k.1, 12, .inl mb) := by rw [hw73]; exact h66
    have h78 : w72 26 = .inl (k.1, 12, .inl mc) := by rw [hw73]; exact h67
    have h79 : w72 27 = .inl (k.1, 72, .inl co) := by rw [hw73]; exact h68
    have h80 : w72 28 = .inl (k.1, 12, .inl (upd (upd jn j ((jn j) ^^^ (1 <<< ((nI i) &&& 31)))) i ((upd jn j ((jn j) ^^^ (1 <<< ((nI i) &&& 31))) i) ^^^ (1 <<< ((nI j) &&& 31))))) := by rw [hw73]; rfl
    have h81 : w72 29 = .inl (k.1, 12, .inl ro) := by rw [hw73]; exact h70
    have hfr82 : ∀ z, z < 22 ∨ 29 < z → w72 z = w z := fun z hz => by rw [hw73]; exact (va_up_ne _ _ (by omega)).trans (hfr71 z hz)
    exact g_vret hQ hx hb hr hlk hG hK hS (by decide) (by decide) ⟨h74, ⟨h75, h76, h77, h78, h79, h80, h81⟩, hfr82⟩ dD_join_104

abbrev rmD_order_z : Room := { frames := 3, cells := 0, slots := 0, locals := 65 }
set_option maxRecDepth 100000 in
set_option maxHeartbeats 4000000 in
theorem kD_order_z {l : Launch} {D : va_G} {k : ClassId × ClassId × ClassId} {a : Nat → Nat} {B0 : Nat} {w : Nat → va_E} (hA : gA B0 a) {th : Int32} {n : Nat} {nr : Nat} {nf : Nat} {bw : Int32} {bd : Int32} {nt : Nat} {rd : Nat → Int32} {ma : Nat → Int32} {mb : Nat → Int32} {mc : Nat → Int32} {co : Nat → Int32} {jn : Nat → Int32} {ro : Nat → Int32} (hsD : sD k a w th n nr nf bw bd nt) (hsDP : sDP k a w rd ma mb mc co jn ro) (q : Int32) (hq : q < 0) : Met l yD_order (tbw yD_order cD_order 6 (some .int)) rmD_order_z (gPc D k a B0 w [.ref (a 22), .int q]) (va_Qi (fun rr9 w1 => rr9 = 0 ∧ (sD k a w1 1 n nr nf bw bd nt) ∧ (sDP k a w1 rd ma mb mc co jn ro) ∧ ∀ z, z < 22 ∨ 29 < z → w1 z = w z) (gB D k a) (gF B0)) 0 0 (gF B0) := by
  have hsD22 := hsD
  obtain ⟨hsDP23, hsDP24, hsDP25, hsDP26, hsDP27, hsDP28, hsDP29⟩ := hsDP
  refine g_ofW (by decide) rfl (fun p e s m args below meth c Q hQ hx hb hr hlk hml hown hts hB hG hK hS ls hl => ?_)
  have hl : lv_has ls 6 [(0, .ref (a 22)), (1, .int q)] := hl
  have hown : s.vm.findClass RD = some m.cls := hown
  have hfr0 : ∀ z, z < 22 ∨ 29 < z → w z = w z := fun _ _ => rfl
  refine lv_aload_n hx hb dD_order_0 rfl (lv_at hl 0 rfl) ?_
  refine lv_iload_n hx hb dD_order_1 rfl (lv_at hl 1 rfl) ?_
  refine lv_if_ge (tgt := 9) hx hb dD_order_2 (by decide) (fun c1 => (absurd hq (Int32.not_lt.mpr c1))) (fun c1 => ?_)
  refine lv_iconst (v := 1) hx hb dD_order_5 (by decide) ?_
  refine lv_goto (tgt := 10) hx hb dD_order_6 (by decide) ?_
  refine lv_iconst (v := 0) hx hb dD_order_10 (by decide) ?_
  refine lv_iconst (v := 0) hx hb dD_order_11 (by decide) ?_
  refine g_Vi (i := 22) (As := [.int 1, .int 0, .int 0]) (rest := []) (kD_throwing hA hsD22 1 0 0) calD_throwing cvD_throwing mlD_77 hx hb hml hown hts hB hG hK hS (by decide) hsD22 rfl ⟨by decide, by decide⟩ rfl hl.1 rfl (Nat.le_of_ble_eq_true rfl) dD_order_12 ⟨by decide, by decide⟩ (fun r2 w3 H locs hp4 hG hS => ?_)
  obtain ⟨er6, h5, hfr7⟩ := hp4
  have h8 : w3 23 = .inl (k.2.2, 12, .inl rd) := (hfr7 23 (by omega)).trans hsDP23
  have h9 : w3 24 = .inl (k.1, 12, .inl ma) := (hfr7 24 (by omega)).trans hsDP24
  have h10 : w3 25 = .inl (k.1, 12, .inl mb) := (hfr7 25 (by omega)).trans hsDP25
  have h11 : w3 26 = .inl (k.1, 12, .inl mc) := (hfr7 26 (by omega)).trans hsDP26
  have h12 : w3 27 = .inl (k.1, 72, .inl co) := (hfr7 27 (by omega)).trans hsDP27
  have h13 : w3 28 = .inl (k.1, 12, .inl jn) := (hfr7 28 (by omega)).trans hsDP28
  have h14 : w3 29 = .inl (k.1, 12, .inl ro) := (hfr7 29 (by omega)).trans hsDP29
  have hfr15 : ∀ z, z < 22 ∨ 29 < z → w3 z = w z := fun z hz => (hfr7 z (by omega)).trans (hfr0 z hz)
  rw [er6]
  refine lb_if_eq (tgt := 20) hx hb dD_order_15 (by decide) (fun h9 => absurd (by decide) h9) (fun _ => ?_)
  refine lv_iconst (v := 0) hx hb dD_order_18 (by decide) ?_
  exact g_iret hQ hx hb hr hlk hG hK hS (by decide) (by decide) ⟨by first | rfl | omega | (simp_all; done) | grind, h5, ⟨h8, h9, h10, h11, h12, h13, h14⟩, hfr15⟩ dD_order_19

abbrev rmD_order_k : Room := { frames := 3, cells := 0, slots := 0, locals := 65 }
set_option maxRecDepth 100000 in
set_option maxHeartbeats 4000000 in
theorem kD_order_k {l : Launch} {D : va_G} {k : ClassId × ClassId × ClassId} {a : Nat → Nat} {B0 : Nat} {w : Nat → va_E} (hA : gA B0 a) {th : Int32} {n : Nat} {nr : Nat} {nf : Nat} {bw : Int32} {bd : Int32} {nt : Nat} {rd : Nat → Int32} {ma : Nat → Int32} {mb : Nat → Int32} {mc : Nat → Int32} {co : Nat → Int32} {jn : Nat → Int32} {ro : Nat → Int32} (hsD : sD k a w th n nr nf bw bd nt) (hsDP : sDP k a w rd ma mb mc co jn ro) (q : Int32) (hq : ¬ q < 0) (hn : n ≤ 12) : Met l yD_order (tbw yD_order cD_order 6 (some .int)) rmD_order_k (gPc D k a B0 w [.ref (a 22), .int q]) (va_Qi (fun rr9 w1 => rr9 = (fstF (mOrdP rd ma mb mc co n q) n 0) ∧ (sD k a w1 0 n nr nf bw bd nt) ∧ (sDP k a w1 rd ma mb mc co jn ro) ∧ ∀ z, z < 22 ∨ 29 < z → w1 z = w z) (gB D k a) (gF B0)) 0 0 (gF B0) := by
  have hsD22 := hsD
  obtain ⟨hsDP23, hsDP24, hsDP25, hsDP26, hsDP27, hsDP28, hsDP29⟩ := hsDP
  refine g_ofW (by decide) rfl (fun p e s m args below meth c Q hQ hx hb hr hlk hml hown hts hB hG hK hS ls hl => ?_)
  have hl : lv_has ls 6 [(0, .ref (a 22)), (1, .int q)] := hl
  have hown : s.vm.findClass RD = some m.cls := hown
  have hfr0 : ∀ z, z < 22 ∨ 29 < z → w z = w z := fun _ _ => rfl
  refine lv_aload_n hx hb dD_order_0 rfl (lv_at hl 0 rfl) ?_
  refine lv_iload_n hx hb dD_order_1 rfl (lv_at hl 1 rfl) ?_
  refine lv_if_ge (tgt := 9) hx hb dD_order_2 (by decide) (fun c1 => ?_) (fun c1 => (absurd (Int32.not_lt.mp hq) c1))
  refine lv_iconst (v := 0) hx hb dD_order_9 (by decide) ?_
  refine lv_iconst (v := 0) hx hb dD_order_10 (by decide) ?_
  refine lv_iconst (v := 0) hx hb dD_order_11 (by decide) ?_
  refine g_Vi (i := 22) (As := [.int 0, .int 0, .int 0]) (rest := []) (kD_throwing hA hsD22 0 0 0) calD_throwing cvD_throwing mlD_77 hx hb hml hown hts hB hG hK hS (by decide) hsD22 rfl ⟨by decide, by decide⟩ rfl hl.1 rfl (Nat.le_of_ble_eq_true rfl) dD_order_12 ⟨by decide, by decide⟩ (fun r2 w3 H locs hp4 hG hS => ?_)
  obtain ⟨er6, h5, hfr7⟩ := hp4
  have h8 : w3 23 = .inl (k.2.2, 12, .inl rd) := (hfr7 23 (by omega)).trans hsDP23
  have h9 : w3 24 = .inl (k.1, 12, .inl ma) := (hfr7 24 (by omega)).trans hsDP24
  have h10 : w3 25 = .inl (k.1, 12, .inl mb) := (hfr7 25 (by omega)).trans hsDP25
  have h11 : w3 26 = .inl (k.1, 12, .inl mc) := (hfr7 26 (by omega)).trans hsDP26
  have h12 : w3 27 = .inl (k.1, 72, .inl co) := (hfr7 27 (by omega)).trans hsDP27
  have h13 : w3 28 = .inl (k.1, 12, .inl jn) := (hfr7 28 (by omega)).trans hsDP28
  have h14 : w3 29 = .inl (k.1, 12, .inl ro) := (hfr7 29 (by omega)).trans hsDP29
  have hfr15 : ∀ z, z < 22 ∨ 29 < z → w3 z = w z := fun z hz => (hfr7 z (by omega)).trans (hfr0 z hz)
  rw [er6]
  refine lb_if_eq (tgt := 20) hx hb dD_order_15 (by decide) (fun _ => ?_) (fun h9 => absurd h9 (by decide))
  refine lv_iconst (v := 0) hx hb dD_order_20 (by decide) ?_
  refine lv_istore_n (lv' := [(2, .int 0), (0, .ref (a 22)), (1, .int q)]) hx hb dD_order_21 rfl hl (by decide) rfl (fun ls hl => ?_)
  have loop22 : ∀ (k9 : Nat) (i : Nat) (hi : i + k9 = n) (hres : fstF (mOrdP rd ma mb mc co n q) k9 i = fstF (mOrdP rd ma mb mc co n q) n 0) (H : Heap) (locs : List Loc) (ls : Array Slot), gW D a w3 H → va_S (gF B0) s.heap H locs → lv_has ls 6 [(0, .ref (a 22)), (1, .int q), (2, .int (nI i))] → W p l e rmD_order_k s m args below meth c H locs 0 0 Q (F0 m 22 ls []) := by
    intro k9
    induction k9 using Nat.strongRecOn with
    | _ k9 ih22 =>
      intro i hi hres H locs ls hG hS hl
      refine lv_iload_n hx hb dD_order_22 rfl (lv_at hl 2 rfl) ?_
      refine lv_aload_n hx hb dD_order_23 rfl (lv_at hl 0 rfl) ?_
      refine g_get hx hb hts inD hown hK hG 22 (by decide) h5 rfl 1 (by decide) lkD_70 rfl dD_order_24 ?_
      refine ln_icmp_ge (x := i) (y := n) (tgt := 138) hx hb dD_order_27 (by decide) (by omega) (by omega) (fun c17 => ?_) (fun c17 => ?_)
      · obtain rfl : k9 = 0 := by omega
        refine lv_iconst (v := (-1)) hx hb dD_order_138 (by decide) ?_
        exact g_iret hQ hx hb hr hlk hG hK hS (by decide) (by decide) ⟨by exact hres, h5, ⟨h8, h9, h10, h11, h12, h13, h14⟩, hfr15⟩ dD_order_139
      · obtain ⟨k8, rfl⟩ : ∃ z, k9 = z + 1 := ⟨k9 - 1, by omega⟩
        refine lv_iconst (v := 0) hx hb dD_order_30 (by decide) ?_
        refine lv_istore_n (lv' := [(3, .int 0), (0, .ref (a 22)), (1, .int q), (2, .int (nI i))]) hx hb dD_order_31 rfl hl (by decide) rfl (fun ls hl => ?_)
        refine lv_iconst (v := 0) hx hb dD_order_32 (by decide) ?_
        refine lv_istore (lv' := [(4, .int 0), (3, .int 0), (0, .ref (a 22)), (1, .int q), (2, .int (nI i))]) hx hb dD_order_33 hl (by decide) rfl (fun ls hl => ?_)
        have loop35 : ∀ (j9 : Nat) (o : Nat) (b : Nat) (ho : o + j9 = n) (hb9 : b ≤ o) (hres2 : b + cntF (mBefP rd ma mb mc co i) j9 o = mBef rd ma mb mc co n i) (H : Heap) (locs : List Loc) (ls : Array Slot), gW D a w3 H → va_S (gF B0) s.heap H locs → lv_has ls 6 [(0, .ref (a 22)), (1, .int q), (2, .int (nI i)), (3, .int (nI b)), (4, .int (nI o))] → W p l e rmD_order_k s m args below meth c H locs 0 0 Q (F0 m 35 ls []) := by
          intro j9
          induction j9 using Nat.strongRecOn with
          | _ j9 ih35 =>
            intro o b ho hb9 hres2 H locs ls hG hS hl
            refine lv_iload hx hb dD_order_35 (lv_at hl 4 rfl) ?_
            refine lv_aload_n hx hb dD_order_37 rfl (lv_at hl 0 rfl) ?_
            refine g_get hx hb hts inD hown hK hG 22 (by decide) h5 rfl 1 (by decide) lkD_70 rfl dD_order_38 ?_
            refine ln_icmp_ge (x := o) (y := n) (tgt := 117) hx hb dD_order_41 (by decide) (by omega) (by omega) (fun c18 => ?_) (fun c18 => ?_)
            · obtain rfl : j9 = 0 := by omega
              refine lv_aload_n hx hb dD_order_117 rfl (lv_at hl 0 rfl) ?_
              refine lv_iload_n hx hb dD_order_118 rfl (lv_at hl 2 rfl) ?_
              refine g_ViR (i := 22) (As := [.int (nI i)]) (rest := []) (kD_isTold hA h5 ⟨h8, h9, h10, h11, h12, h13, h14⟩ i (by omega)) calD_isTold cvD_isTold mlD_101 hx hb hml hown hts hB hG hK hS (by decide) h5 rfl ⟨by decide, by decide⟩ rfl hl.1 rfl (Nat.le_of_ble_eq_true rfl) dD_order_119 ⟨by decide, by decide⟩ (fun H locs hG hS => ?_)
              refine lb_if_eq (tgt := 132) hx hb dD_order_122 (by decide) (fun c19 => ?_) (fun c19 => ?_)
              · refine lv_iinc (v := (nI (i + 1))) (lv' := [(2, .int (nI (i + 1))), (0, .ref (a 22)), (1, .int q), (3, .int (nI b)), (4, .int (nI o))]) hx hb dD_order_132 hl (k := 2) rfl (nI_add i 1) (by decide) rfl (fun ls hl => ?_)
                refine lv_goto (tgt := 22) hx hb dD_order_135 (by decide) ?_
                exact ih22 k8 (by omega) (i + 1) (by omega) ((fstF_n (P := (mOrdP rd ma mb mc co n q)) (fun h9 => by first | exact absurd h9.1 (by assumption) | exact absurd ((congrArg nI (by first | (rw [← hres2]; done) | (rw [← hres2]; rfl))).trans h9.2) (by assumption))).symm.trans hres) _ _ _ hG hS (lv_sub hl [1, 2, 0] rfl)
              · refine lv_iload_n hx hb dD_order_125 rfl (lv_at hl 3 rfl) ?_
                refine lv_iload_n hx hb dD_order_126 rfl (lv_at hl 1 rfl) ?_
                refine lv_icmp_ne (tgt := 132) hx hb dD_order_127 (by decide) (fun c20 => ?_) (fun c20 => ?_)
                · refine lv_iinc (v := (nI (i + 1))) (lv' := [(2, .int (nI (i + 1))), (0, .ref (a 22)), (1, .int q), (3, .int (nI b)), (4, .int (nI o))]) hx hb dD_order_132 hl (k := 2) rfl (nI_add i 1) (by decide) rfl (fun ls hl => ?_)
                  refine lv_goto (tgt := 22) hx hb dD_order_135 (by decide) ?_
                  exact ih22 k8 (by omega) (i + 1) (by omega) ((fstF_n (P := (mOrdP rd ma mb mc co n q)) (fun h9 => by first | exact absurd h9.1 (by assumption) | exact absurd ((congrArg nI (by first | (rw [← hres2]; done) | (rw [← hres2]; rfl))).trans h9.2) (by assumption))).symm.trans hres) _ _ _ hG hS (lv_sub hl [1, 2, 0] rfl)
                · refine lv_iload_n hx hb dD_order_130 rfl (lv_at hl 2 rfl) ?_
                  exact g_iret hQ hx hb hr hlk hG hK hS (by decide) (by decide) ⟨by exact (fstF_y (P := (mOrdP rd ma mb mc co n q)) ⟨by assumption, (congrArg nI (by first | (rw [← hres2]; done) | (rw [← hres2]; rfl))).symm.trans (by assumption)⟩).symm.trans hres, h5, ⟨h8, h9, h10, h11, h12, h13, h14⟩, hfr15⟩ dD_order_131
            · obtain ⟨j8, rfl⟩ : ∃ z, j9 = z + 1 := ⟨j9 - 1, by omega⟩
              refine lv_aload_n hx hb dD_order_44 rfl (lv_at hl 0 rfl) ?_
              refine lv_iload_n hx hb dD_order_45 rfl (lv_at hl 2 rfl) ?_
              refine g_ViR (i := 22) (As := [.int (nI i)]) (rest := []) (kD_isTold hA h5 ⟨h8, h9, h10, h11, h12, h13, h14⟩ i (by omega)) calD_isTold cvD_isTold mlD_101 hx hb hml hown hts hB hG hK hS (by decide) h5 rfl ⟨by decide, by decide⟩ rfl hl.1 rfl (Nat.le_of_ble_eq_true rfl) dD_order_46 ⟨by decide, by decide⟩ (fun H locs hG hS => ?_)
              refine lb_if_eq (tgt := 117) hx hb dD_order_49 (by decide) (fun c21 => ?_) (fun c21 => ?_)
              · refine lv_aload_n hx hb dD_order_117 rfl (lv_at hl 0 rfl) ?_
                refine lv_iload_n hx hb dD_order_118 rfl (lv_at hl 2 rfl) ?_
                refine g_ViR (i := 22) (As := [.int (nI i)]) (rest := []) (kD_isTold hA h5 ⟨h8, h9, h10, h11, h12, h13, h14⟩ i (by omega)) calD_isTold cvD_isTold mlD_101 hx hb hml hown hts hB hG hK hS (by decide) h5 rfl ⟨by decide, by decide⟩ rfl hl.1 rfl (Nat.le_of_ble_eq_true rfl) dD_order_119 ⟨by decide, by decide⟩ (fun H locs hG hS => ?_)
                refine lb_if_eq (tgt := 132) hx hb dD_order_122 (by decide) (fun _ => ?_) (fun h9 => absurd h9 c21)
                refine lv_iinc (v := (nI (i + 1))) (lv' := [(2, .int (nI (i + 1))), (0, .ref (a 22)), (1, .int q), (3, .int (nI b)), (4, .int (nI o))]) hx hb dD_order_132 hl (k := 2) rfl (nI_add i 1) (by decide) rfl (fun ls hl => ?_)
                refine lv_goto (tgt := 22) hx hb dD_order_135 (by decide) ?_
                exact ih22 k8 (by omega) (i + 1) (by omega) ((fstF_n (P := (mOrdP rd ma mb mc co n q)) (fun h9 => by first | exact absurd h9.1 (by assumption) | exact absurd ((congrArg nI (by first | (rw [← hres2]; done) | (rw [← hres2]; rfl))).trans h9.2) (by assumption))).symm.trans hres) _ _ _ hG hS (lv_sub hl [1, 2, 0] rfl)
              · have mrg96_23 : ∀ (H : Heap) (locs : List Loc), gW D a w3 H → va_S (gF B0) s.heap H locs → W p l e rmD_order_k s m args below meth c H locs 0 0 Q (F0 m 96 ls [.int (b2i (mBefP rd ma mb mc co i o))]) := by
                  intro H locs hG hS
                  refine lv_istore (lv' := [(5, .int (b2i (mBefP rd ma mb mc co i o))), (0, .ref (a 22)), (1, .int q), (2, .int (nI i)), (3, .int (nI b)), (4, .int (nI o))]) hx hb dD_order_96 hl (by decide) rfl (fun ls hl => ?_)
                  refine lv_iload_n hx hb dD_order_98 rfl (lv_at hl 4 rfl) ?_
                  refine lv_iload hx hb dD_order_99 (lv_at hl 0 rfl) ?_
                  refine lb_if_eq (tgt := 108) hx hb dD_order_101 (by decide) (fun c24 => ?_) (fun c24 => ?_)
                  · refine lv_iconst (v := 0) hx hb dD_order_108 (by decide) ?_
                    refine ln_iadd (x := b) (y := 0) hx hb dD_order_109 ?_
                    refine lv_istore_n (lv' := [(3, .int (nI (b + 0))), (5, .int (b2i (mBefP rd ma mb mc co i o))), (0, .ref (a 22)), (1, .int q), (2, .int (nI i)), (4, .int (nI o))]) hx hb dD_order_110 rfl hl (by decide) rfl (fun ls hl => ?_)
                    refine lv_iinc (v := (nI (o + 1))) (lv' := [(4, .int (nI (o + 1))), (3, .int (nI (b + 0))), (5, .int (b2i (mBefP rd ma mb mc co i o))), (0, .ref (a 22)), (1, .int q), (2, .int (nI i))]) hx hb dD_order_111 hl (k := 5) rfl (nI_add o 1) (by decide) rfl (fun ls hl => ?_)
                    refine lv_goto (tgt := 35) hx hb dD_order_114 (by decide) ?_
                    exact ih35 j8 (by omega) (o + 1) (b + 0) (by omega) (by omega) (by first | (have := cntF_y (P := (mBefP rd ma mb mc co i)) (k := j8) (i := o) (by assumption); omega) | (have := cntF_n (P := (mBefP rd ma mb mc co i)) (k := j8) (i := o) (by assumption); omega)) _ _ _ hG hS (lv_sub hl [3, 4, 5, 1, 0] rfl)
                  · refine lv_iconst (v := 1) hx hb dD_order_104 (by decide) ?_
                    refine lv_goto (tgt := 109) hx hb dD_order_105 (by decide) ?_
                    refine ln_iadd (x := b) (y := 1) hx hb dD_order_109 ?_
                    refine lv_istore_n (lv' := [(3, .int (nI (b + 1))), (5, .int (b2i (mBefP rd ma mb mc co i o))), (0, .ref (a 22)), (1, .int q), (2, .int (nI i)), (4, .int (nI o))]) hx hb dD_order_110 rfl hl (by decide) rfl (fun ls hl => ?_)
                    refine lv_iinc (v := (nI (o + 1))) (lv' := [(4, .int (nI (o + 1))), (3, .int (nI (b + 1))), (5, .int (b2i (mBefP rd ma mb mc co i o))), (0, .ref (a 22)), (1, .int q), (2, .int (nI i))]) hx hb dD_order_111 hl (k := 5) rfl (nI_add o 1) (by decide) rfl (fun ls hl => ?_)
                    refine lv_goto (tgt := 35) hx hb dD_order_114 (by decide) ?_
                    exact ih35 j8 (by omega) (o + 1) (b + 1) (by omega) (by omega) (by first | (have := cntF_y (P := (mBefP rd ma mb mc co i)) (k := j8) (i := o) (by assumption); omega) | (have := cntF_n (P := (mBefP rd ma mb mc co i)) (k := j8) (i := o) (by assumption); omega)) _ _ _ hG hS (lv_sub hl [3, 4, 5, 1, 0] rfl)
                refine lv_aload_n hx hb dD_order_52 rfl (lv_at hl 0 rfl) ?_
                refine lv_iload hx hb dD_order_53 (lv_at hl 4 rfl) ?_
                refine g_ViR (i := 22) (As := [.int (nI o)]) (rest := []) (kD_isTold hA h5 ⟨h8, h9, h10, h11, h12, h13, h14⟩ o (by omega)) calD_isTold cvD_isTold mlD_101 hx hb hml hown hts hB hG hK hS (by decide) h5 rfl ⟨by decide, by decide⟩ rfl hl.1 rfl (Nat.le_of_ble_eq_true rfl) dD_order_55 ⟨by decide, by decide⟩ (fun H locs hG hS => ?_)
                refine lb_if_eq (tgt := 95) hx hb dD_order_58 (by decide) (fun c25 => ?_) (fun c25 => ?_)
                · refine lv_iconst (v := 0) hx hb dD_order_95 (by decide) ?_
                  have hz9 := mrg96_23 _ _ hG hS
                  rw [b2i_f (P := mBefP rd ma mb mc co i o) (by first | exact ⟨by assumption, Or.inl (by assumption)⟩ | exact ⟨by assumption, Or.inr ⟨by assumption, by omega⟩⟩ | (rintro ⟨h8, h9 | ⟨h9, h7⟩⟩ <;> first | exact absurd h8 (by assumption) | exact absurd h9 (Int64.not_lt.mpr (by assumption)) | exact absurd h9 (by assumption) | omega))] at hz9
                  exact hz9
                · refine lv_aload_n hx hb dD_order_61 rfl (lv_at hl 0 rfl) ?_
                  refine lv_iload hx hb dD_order_62 (lv_at hl 4 rfl) ?_
                  refine lv_iload_n hx hb dD_order_64 rfl (lv_at hl 2 rfl) ?_
                  refine g_VlR (i := 22) (As := [.int (nI o), .int (nI i)]) (rest := []) (kD_compare hA h5 ⟨h8, h9, h10, h11, h12, h13, h14⟩ o i (by omega) (by omega)) calD_compare cvD_compare mlD_104 hx hb hml hown hts hB hG hK hS (by decide) h5 rfl ⟨by decide, by decide⟩ rfl hl.1 rfl (Nat.le_of_ble_eq_true rfl) dD_order_65 ⟨by decide, by decide⟩ (fun H locs hG hS => ?_)
                  refine lv_lconst (v := 0) hx hb dD_order_68 (by decide) ?_
                  refine W.lcmp hx hb dD_order_69 ?_
                  refine lc_if_lt (tgt := 91) hx hb dD_order_70 (by decide) (fun c26 => ?_) (fun c26 => ?_)
                  · refine lv_iconst (v := 1) hx hb dD_order_91 (by decide) ?_
                    refine lv_goto (tgt := 96) hx hb dD_order_92 (by decide) ?_
                    have hz9 := mrg96_23 _ _ hG hS
                    rw [b2i_t (P := mBefP rd ma mb mc co i o) (by first | exact ⟨by assumption, Or.inl (by assumption)⟩ | exact ⟨by assumption, Or.inr ⟨by assumption, by omega⟩⟩ | (rintro ⟨h8, h9 | ⟨h9, h7⟩⟩ <;> first | exact absurd h8 (by assumption) | exact absurd h9 (Int64.not_lt.mpr (by assumption)) | exact absurd h9 (by assumption) | omega))] at hz9
                    exact hz9
                  · refine lv_aload_n hx hb dD_order_73 rfl (lv_at hl 0 rfl) ?_
                    refine lv_iload hx hb dD_order_74 (lv_at hl 4 rfl) ?_
                    refine lv_iload_n hx hb dD_order_76 rfl (lv_at hl 2 rfl) ?_
                    refine g_VlR (i := 22) (As := [.int (nI o), .int (nI i)]) (rest := []) (kD_compare hA h5 ⟨h8, h9, h10, h11, h12, h13, h14⟩ o i (by omega) (by omega)) calD_compare cvD_compare mlD_104 hx hb hml hown hts hB hG hK hS (by decide) h5 rfl ⟨by decide, by decide⟩ rfl hl.1 rfl (Nat.le_of_ble_eq_true rfl) dD_order_77 ⟨by decide, by decide⟩ (fun H locs hG hS => ?_)
                    refine lv_lconst (v := 0) hx hb dD_order_80 (by decide) ?_
                    refine W.lcmp hx hb dD_order_81 ?_
                    refine lc_if_ne (tgt := 95) hx hb dD_order_82 (by decide) (fun c27 => ?_) (fun c27 => ?_)
                    · refine lv_iconst (v := 0) hx hb dD_order_95 (by decide) ?_
                      have hz9 := mrg96_23 _ _ hG hS
                      rw [b2i_f (P := mBefP rd ma mb mc co i o) (by first | exact ⟨by assumption, Or.inl (by assumption)⟩ | exact ⟨by assumption, Or.inr ⟨by assumption, by omega⟩⟩ | (rintro ⟨h8, h9 | ⟨h9, h7⟩⟩ <;> first | exact absurd h8 (by assumption) | exact absurd h9 (Int64.not_lt.mpr (by assumption)) | exact absurd h9 (by assumption) | omega))] at hz9
                      exact hz9
                    · refine lv_iload hx hb dD_order_85 (lv_at hl 4 rfl) ?_
                      refine lv_iload_n hx hb dD_order_87 rfl (lv_at hl 2 rfl) ?_
                      refine ln_icmp_ge (x := o) (y := i) (tgt := 95) hx hb dD_order_88 (by decide) (by omega) (by omega) (fun c28 => ?_) (fun c28 => ?_)
                      · refine lv_iconst (v := 0) hx hb dD_order_95 (by decide) ?_
                        have hz9 := mrg96_23 _ _ hG hS
                        rw [b2i_f (P := mBefP rd ma mb mc co i o) (by first | exact ⟨by assumption, Or.inl (by assumption)⟩ | exact ⟨by assumption, Or.inr ⟨by assumption, by omega⟩⟩ | (rintro ⟨h8, h9 | ⟨h9, h7⟩⟩ <;> first | exact absurd h8 (by assumption) | exact absurd h9 (Int64.not_lt.mpr (by assumption)) | exact absurd h9 (by assumption) | omega))] at hz9
                        exact hz9
                      · refine lv_iconst (v := 1) hx hb dD_order_91 (by decide) ?_
                        refine lv_goto (tgt := 96) hx hb dD_order_92 (by decide) ?_
                        have hz9 := mrg96_23 _ _ hG hS
                        rw [b2i_t (P := mBefP rd ma mb mc co i o) (by first | exact ⟨by assumption, Or.inl (by assumption)⟩ | exact ⟨by assumption, Or.inr ⟨by assumption, by omega⟩⟩ | (rintro ⟨h8, h9 | ⟨h9, h7⟩⟩ <;> first | exact absurd h8 (by assumption) | exact absurd h9 (Int64.not_lt.mpr (by assumption)) | exact absurd h9 (by assumption) | omega))] at hz9
                        exact hz9
        exact loop35 n 0 0 (by omega) (by omega) (Nat.zero_add _) _ _ _ hG hS (lv_sub hl [2, 3, 4, 1, 0] rfl)
  exact loop22 n 0 (by omega) rfl _ _ _ hG hS (lv_sub hl [1, 2, 0] rfl)

abbrev rmD_unfed_z : Room := { frames := 4, cells := 0, slots := 0, locals := 89 }
set_option maxRecDepth 100000 in
set_option maxHeartbeats 4000000 in
theorem kD_unfed_z {l : Launch} {D : va_G} {k : ClassId × ClassId × ClassId} {a : Nat → Nat} {B0 : Nat} {w : Nat → va_E} (hA : gA B0 a) {th : Int32} {n : Nat} {nr : Nat} {nf : Nat} {bw : Int32} {bd : Int32} {nt : Nat} {rd : Nat → Int32} {ma : Nat → Int32} {mb : Nat → Int32} {mc : Nat → Int32} {co : Nat → Int32} {jn : Nat → Int32} {ro : Nat → Int32} (hsD : sD k a w th n nr nf bw bd nt) (hsDP : sDP k a w rd ma mb mc co jn ro) (q : Int32) (hq : q < 0) : Met l yD_unfed (tbw yD_unfed cD_unfed 4 (some .int)) rmD_unfed_z (gPc D k a B0 w [.ref (a 22), .int q]) (va_Qi (fun rr9 w1 => rr9 = 0 ∧ (sD k a w1 1 n nr nf bw bd nt) ∧ (sDP k a w1 rd ma mb mc co jn ro) ∧ ∀ z, z < 22 ∨ 29 < z → w1 z = w z) (gB D k a) (gF B0)) 0 0 (gF B0) := by
  have hsD22 := hsD
  obtain ⟨hsDP23, hsDP24, hsDP25, hsDP26, hsDP27, hsDP28, hsDP29⟩ := hsDP
  refine g_ofW (by decide) rfl (fun p e s m args below meth c Q hQ hx hb hr hlk hml hown hts hB hG hK hS ls hl => ?_)
  have hl : lv_has ls 4 [(0, .ref (a 22)), (1, .int q)] := hl
  have hown : s.vm.findClass RD = some m.cls := hown
  have hfr0 : ∀ z, z < 22 ∨ 29 < z → w z = w z := fun _ _ => rfl
  refine lv_aload_n hx hb dD_unfed_0 rfl (lv_at hl 0 rfl) ?_
  refine lv_iload_n hx hb dD_unfed_1 rfl (lv_at hl 1 rfl) ?_
  refine lv_if_ge (tgt := 9) hx hb dD_unfed_2 (by decide) (fun c1 => (absurd hq (Int32.not_lt.mpr c1))) (fun c1 => ?_)
  refine lv_iconst (v := 1) hx hb dD_unfed_5 (by decide) ?_
  refine lv_goto (tgt := 10) hx hb dD_unfed_6 (by decide) ?_
  refine lv_iconst (v := 0) hx hb dD_unfed_10 (by decide) ?_
  refine lv_iconst (v := 0) hx hb dD_unfed_11 (by decide) ?_
  refine g_Vi (i := 22) (As := [.int 1, .int 0, .int 0]) (rest := []) (kD_throwing hA hsD22 1 0 0) calD_throwing cvD_throwing mlD_77 hx hb hml hown hts hB hG hK hS (by decide) hsD22 rfl ⟨by decide, by decide⟩ rfl hl.1 rfl (Nat.le_of_ble_eq_true rfl) dD_unfed_12 ⟨by decide, by decide⟩ (fun r2 w3 H locs hp4 hG hS => ?_)
  obtain ⟨er6, h5, hfr7⟩ := hp4
  have h8 : w3 23 = .inl (k.2.2, 12, .inl rd) := (hfr7 23 (by omega)).trans hsDP23
  have h9 : w3 24 = .inl (k.1, 12, .inl ma) := (hfr7 24 (by omega)).trans hsDP24
  have h10 : w3 25 = .inl (k.1, 12, .inl mb) := (hfr7 25 (by omega)).trans hsDP25
  have h11 : w3 26 = .inl (k.1, 12, .inl mc) := (hfr7 26 (by omega)).trans hsDP26
  have h12 : w3 27 = .inl (k.1, 72, .inl co) := (hfr7 27 (by omega)).trans hsDP27
  have h13 : w3 28 = .inl (k.1, 12, .inl jn) := (hfr7 28 (by omega)).trans hsDP28
  have h14 : w3 29 = .inl (k.1, 12, .inl ro) := (hfr7 29 (by omega)).trans hsDP29
  have hfr15 : ∀ z, z < 22 ∨ 29 < z → w3 z = w z := fun z hz => (hfr7 z (by omega)).trans (hfr0 z hz)
  rw [er6]
  refine lb_if_eq (tgt := 20) hx hb dD_unfed_15 (by decide) (fun h9 => absurd (by decide) h9) (fun _ => ?_)
  refine lv_iconst (v := 0) hx hb dD_unfed_18 (by decide) ?_
  exact g_iret hQ hx hb hr hlk hG hK hS (by decide) (by decide) ⟨by first | rfl | omega | (simp_all; done) | grind, h5, ⟨h8, h9, h10, h11, h12, h13, h14⟩, hfr15⟩ dD_unfed_19

abbrev rmD_unfed_k : Room := { frames := 4, cells := 0, slots := 0, locals := 89 }
set_option maxRecDepth 100000 in
set_option maxHeartbeats 4000000 in
theorem kD_unfed_k {l : Launch} {D : va_G} {k : ClassId × ClassId × ClassId} {a : Nat → Nat} {B0 : Nat} {w : Nat → va_E} (hA : gA B0 a) {th : Int32} {n : Nat} {nr : Nat} {nf : Nat} {bw : Int32} {bd : Int32} {nt : Nat} {rd : Nat → Int32} {ma : Nat → Int32} {mb : Nat → Int32} {mc : Nat → Int32} {co : Nat → Int32} {jn : Nat → Int32} {ro : Nat → Int32} (hsD : sD k a w th n nr nf bw bd nt) (hsDP : sDP k a w rd ma mb mc co jn ro) (q : Int32) (hq : ¬ q < 0) (hn : n ≤ 12) : Met l yD_unfed (tbw yD_unfed cD_unfed 4 (some .int)) rmD_unfed_k (gPc D k a B0 w [.ref (a 22), .int q]) (va_Qi (fun rr9 w1 => rr9 = (unF (mFeed rd ma mb mc co jn ro n) q n 0 0) ∧ (sD k a w1 0 n nr nf bw bd nt) ∧ (sDP k a w1 rd ma mb mc co jn ro) ∧ ∀ z, z < 22 ∨ 29 < z → w1 z = w z) (gB D k a) (gF B0)) 0 0 (gF B0) := by
  have hsD22 := hsD
  obtain ⟨hsDP23, hsDP24, hsDP25, hsDP26, hsDP27, hsDP28, hsDP29⟩ := hsDP
  refine g_ofW (by decide) rfl (fun p e s m args below meth c Q hQ hx hb hr hlk hml hown hts hB hG hK hS ls hl => ?_)
  have hl : lv_has ls 4 [(0, .ref (a 22)), (1, .int q)] := hl
  have hown : s.vm.findClass RD = some m.cls := hown
  have hfr0 : ∀ z, z < 22 ∨ 29 < z → w z = w z := fun _ _ => rfl
  refine lv_aload_n hx hb dD_unfed_0 rfl (lv_at hl 0 rfl) ?_
  refine lv_iload_n hx hb dD_unfed_1 rfl (lv_at hl 1 rfl) ?_
  refine lv_if_ge (tgt := 9) hx hb dD_unfed_2 (by decide) (fun c1 => ?_) (fun c1 => (absurd (Int32.not_lt.mp hq) c1))
  refine lv_iconst (v := 0) hx hb dD_unfed_9 (by decide) ?_
  refine lv_iconst (v := 0) hx hb dD_unfed_10 (by decide) ?_
  refine lv_iconst (v := 0) hx hb dD_unfed_11 (by decide) ?_
  refine g_Vi (i := 22) (As := [.int 0, .int 0, .int 0]) (rest := []) (kD_throwing hA hsD22 0 0 0) calD_throwing cvD_throwing mlD_77 hx hb hml hown hts hB hG hK hS (by decide) hsD22 rfl ⟨by decide, by decide⟩ rfl hl.1 rfl (Nat.le_of_ble_eq_true rfl) dD_unfed_12 ⟨by decide, by decide⟩ (fun r2 w3 H locs hp4 hG hS => ?_)
  obtain ⟨er6, h5, hfr7⟩ := hp4
  have h8 : w3 23 = .inl (k.2.2, 12, .inl rd) := (hfr7 23 (by omega)).trans hsDP23
  have h9 : w3 24 = .inl (k.1, 12, .inl ma) := (hfr7 24 (by omega)).trans hsDP24
  have h10 : w3 25 = .inl (k.1, 12, .inl mb) := (hfr7 25 (by omega)).trans hsDP25
  have h11 : w3 26 = .inl (k.1, 12, .inl mc) := (hfr7 26 (by omega)).trans hsDP26
  have h12 : w3 27 = .inl (k.1, 72, .inl co) := (hfr7 27 (by omega)).trans hsDP27
  have h13 : w3 28 = .inl (k.1, 12, .inl jn) := (hfr7 28 (by omega)).trans hsDP28
  have h14 : w3 29 = .inl (k.1, 12, .inl ro) := (hfr7 29 (by omega)).trans hsDP29
  have hfr15 : ∀ z, z < 22 ∨ 29 < z → w3 z = w z := fun z hz => (hfr7 z (by omega)).trans (hfr0 z hz)
  rw [er6]
  refine lb_if_eq (tgt := 20) hx hb dD_unfed_15 (by decide) (fun _ => ?_) (fun h9 => absurd h9 (by decide))
  refine lv_iconst (v := 0) hx hb dD_unfed_20 (by decide) ?_
  refine lv_istore_n (lv' := [(2, .int 0), (0, .ref (a 22)), (1, .int q)]) hx hb dD_unfed_21 rfl hl (by decide) rfl (fun ls hl => ?_)
  refine lv_iconst (v := 0) hx hb dD_unfed_22 (by decide) ?_
  refine lv_istore_n (lv' := [(3, .int 0), (2, .int 0), (0, .ref (a 22)), (1, .int q)]) hx hb dD_unfed_23 rfl hl (by decide) rfl (fun ls hl => ?_)
  have loop24 : ∀ (k9 : Nat) (i : Nat) (b : Nat) (hi : i + k9 = n) (hres : unF (mFeed rd ma mb mc co jn ro n) q k9 i b = unF (mFeed rd ma mb mc co jn ro n) q n 0 0) (H : Heap) (locs : List Loc) (ls : Array Slot), gW D a w3 H → va_S (gF B0) s.heap H locs → lv_has ls 4 [(0, .ref (a 22)), (1, .int q), (2, .int (nI b)), (3, .int (nI i))] → W p l e rmD_unfed_k s m args below meth c H locs 0 0 Q (F0 m 24 ls []) := by
    intro k9
    induction k9 using Nat.strongRecOn with
    | _ k9 ih24 =>
      intro i b hi hres H locs ls hG hS hl
      refine lv_iload_n hx hb dD_unfed_24 rfl (lv_at hl 3 rfl) ?_
      refine lv_aload_n hx hb dD_unfed_25 rfl (lv_at hl 0 rfl) ?_
      refine g_get hx hb hts inD hown hK hG 22 (by decide) h5 rfl 1 (by decide) lkD_70 rfl dD_unfed_26 ?_
      refine ln_icmp_ge (x := i) (y := n) (tgt := 57) hx hb dD_unfed_29 (by decide) (by omega) (by omega) (fun c17 => ?_) (fun c17 => ?_)
      · obtain rfl : k9 = 0 := by omega
        refine lv_iconst (v := (-1)) hx hb dD_unfed_57 (by decide) ?_
        exact g_iret hQ hx hb hr hlk hG hK hS (by decide) (by decide) ⟨by exact hres, h5, ⟨h8, h9, h10, h11, h12, h13, h14⟩, hfr15⟩ dD_unfed_58
      · obtain ⟨k8, rfl⟩ : ∃ z, k9 = z + 1 := ⟨k9 - 1, by omega⟩
        refine lv_aload_n hx hb dD_unfed_32 rfl (lv_at hl 0 rfl) ?_
        refine lv_iload_n hx hb dD_unfed_33 rfl (lv_at hl 3 rfl) ?_
        refine g_ViR (i := 22) (As := [.int (nI i)]) (rest := []) (kD_feederOf hA h5 ⟨h8, h9, h10, h11, h12, h13, h14⟩ i (by omega) (by omega)) calD_feederOf cvD_feederOf mlD_119 hx hb hml hown hts hB hG hK hS (by decide) h5 rfl ⟨by decide, by decide⟩ rfl hl.1 rfl (Nat.le_of_ble_eq_true rfl) dD_unfed_34 ⟨by decide, by decide⟩ (fun H locs hG hS => ?_)
        refine lv_iconst (v := (-1)) hx hb dD_unfed_37 (by decide) ?_
        refine lv_icmp_ne (tgt := 51) hx hb dD_unfed_38 (by decide) (fun c18 => ?_) (fun c18 => ?_)
        · refine lv_iinc (v := (nI (i + 1))) (lv' := [(3, .int (nI (i + 1))), (0, .ref (a 22)), (1, .int q), (2, .int (nI b))]) hx hb dD_unfed_51 hl (k := 3) rfl (nI_add i 1) (by decide) rfl (fun ls hl => ?_)
          refine lv_goto (tgt := 24) hx hb dD_unfed_54 (by decide) ?_
          exact ih24 k8 (by omega) (i + 1) b (by omega) (by first | exact (unF_n (by assumption)).symm.trans hres | exact (unF_s (by assumption) (by assumption)).symm.trans hres) _ _ _ hG hS (lv_sub hl [1, 2, 3, 0] rfl)
        · refine lv_iload_n hx hb dD_unfed_41 rfl (lv_at hl 2 rfl) ?_
          refine lv_iload_n hx hb dD_unfed_42 rfl (lv_at hl 1 rfl) ?_
          refine lv_icmp_ne (tgt := 48) hx hb dD_unfed_43 (by decide) (fun c19 => ?_) (fun c19 => ?_)
          · refine lv_iinc (v := (nI (b + 1))) (lv' := [(2, .int (nI (b + 1))), (0, .ref (a 22)), (1, .int q), (3, .int (nI i))]) hx hb dD_unfed_48 hl (k := 2) rfl (nI_add b 1) (by decide) rfl (fun ls hl => ?_)
            refine lv_iinc (v := (nI (i + 1))) (lv' := [(3, .int (nI (i + 1))), (2, .int (nI (b + 1))), (0, .ref (a 22)), (1, .int q)]) hx hb dD_unfed_51 hl (k := 3) rfl (nI_add i 1) (by decide) rfl (fun ls hl => ?_)
            refine lv_goto (tgt := 24) hx hb dD_unfed_54 (by decide) ?_
            exact ih24 k8 (by omega) (i + 1) (b + 1) (by omega) (by first | exact (unF_n (by assumption)).symm.trans hres | exact (unF_s (by assumption) (by assumption)).symm.trans hres) _ _ _ hG hS (lv_sub hl [2, 3, 1, 0] rfl)
          · refine lv_iload_n hx hb dD_unfed_46 rfl (lv_at hl 3 rfl) ?_
            exact g_iret hQ hx hb hr hlk hG hK hS (by decide) (by decide) ⟨by exact (unF_y (by assumption) (by assumption)).symm.trans hres, h5, ⟨h8, h9, h10, h11, h12, h13, h14⟩, hfr15⟩ dD_unfed_47
  exact loop24 n 0 0 (by omega) rfl _ _ _ hG hS (lv_sub hl [2, 3, 1, 0] rfl)

abbrev rmD_feeder_p : Room := { frames := 4, cells := 0, slots := 0, locals := 89 }
set_option maxRecDepth 100000 in
set_option maxHeartbeats 4000000 in
theorem kD_feeder_p {l : Launch} {D : va_G} {k : ClassId × ClassId × ClassId} {a : Nat → Nat} {B0 : Nat} {w : Nat → va_E} (hA : gA B0 a) {th : Int32} {n : Nat} {nr : Nat} {nf : Nat} {bw : Int32} {bd : Int32} {nt : Nat} {rd : Nat → Int32} {ma : Nat → Int32} {mb : Nat → Int32} {mc : Nat → Int32} {co : Nat → Int32} {jn : Nat → Int32} {ro : Nat → Int32} (hsD : sD k a w th n nr nf bw bd nt) (hsDP : sDP k a w rd ma mb mc co jn ro) (q : Int32) (hq : ¬ rngI q 0 (nI n - 1)) : Met l yD_feeder (tbw yD_feeder cD_feeder 2 (some .int)) rmD_feeder_p (gPc D k a B0 w [.ref (a 22), .int q]) (va_Qi (fun rr9 w1 => rr9 = 0 ∧ (sD k a w1 1 n nr nf bw bd nt) ∧ (sDP k a w1 rd ma mb mc co jn ro) ∧ ∀ z, z < 22 ∨ 29 < z → w1 z = w z) (gB D k a) (gF B0)) 0 0 (gF B0) := by
  have hsD22 := hsD
  obtain ⟨hsDP23, hsDP24, hsDP25, hsDP26, hsDP27, hsDP28, hsDP29⟩ := hsDP
  refine g_ofW (by decide) rfl (fun p e s m args below meth c Q hQ hx hb hr hlk hml hown hts hB hG hK hS ls hl => ?_)
  have hl : lv_has ls 2 [(0, .ref (a 22)), (1, .int q)] := hl
  have hown : s.vm.findClass RD = some m.cls := hown
  have hfr0 : ∀ z, z < 22 ∨ 29 < z → w z = w z := fun _ _ => rfl
  refine lv_aload_n hx hb dD_feeder_0 rfl (lv_at hl 0 rfl) ?_
  refine lv_aload_n hx hb dD_feeder_1 rfl (lv_at hl 0 rfl) ?_
  refine lv_iload_n hx hb dD_feeder_2 rfl (lv_at hl 1 rfl) ?_
  refine g_ViR (i := 22) (As := [.int q]) (rest := [.ref (a 22)]) (kD_isPart hA hsD22 q) calD_isPart cvD_isPart mlD_85 hx hb hml hown hts hB hG hK hS (by decide) hsD22 rfl ⟨by decide, by decide⟩ rfl hl.1 rfl (Nat.le_of_ble_eq_true rfl) dD_feeder_3 ⟨by decide, by decide⟩ (fun H locs hG hS => ?_)
  refine lb_if_ne (tgt := 13) hx hb dD_feeder_6 (by decide) (fun h9 => absurd h9 hq) (fun _ => ?_)
  refine lv_iconst (v := 1) hx hb dD_feeder_9 (by decide) ?_
  refine lv_goto (tgt := 14) hx hb dD_feeder_10 (by decide) ?_
  refine lv_iconst (v := 0) hx hb dD_feeder_14 (by decide) ?_
  refine lv_iconst (v := 0) hx hb dD_feeder_15 (by decide) ?_
  refine g_Vi (i := 22) (As := [.int 1, .int 0, .int 0]) (rest := []) (kD_throwing hA hsD22 1 0 0) calD_throwing cvD_throwing mlD_77 hx hb hml hown hts hB hG hK hS (by decide) hsD22 rfl ⟨by decide, by decide⟩ rfl hl.1 rfl (Nat.le_of_ble_eq_true rfl) dD_feeder_16 ⟨by decide, by decide⟩ (fun r2 w3 H locs hp4 hG hS => ?_)
  obtain ⟨er6, h5, hfr7⟩ := hp4
  have h8 : w3 23 = .inl (k.2.2, 12, .inl rd) := (hfr7 23 (by omega)).trans hsDP23
  have h9 : w3 24 = .inl (k.1, 12, .inl ma) := (hfr7 24 (by omega)).trans hsDP24
  have h10 : w3 25 = .inl (k.1, 12, .inl mb) := (hfr7 25 (by omega)).trans hsDP25
  have h11 : w3 26 = .inl (k.1, 12, .inl mc) := (hfr7 26 (by omega)).trans hsDP26
  have h12 : w3 27 = .inl (k.1, 72, .inl co) := (hfr7 27 (by omega)).trans hsDP27
  have h13 : w3 28 = .inl (k.1, 12, .inl jn) := (hfr7 28 (by omega)).trans hsDP28
  have h14 : w3 29 = .inl (k.1, 12, .inl ro) := (hfr7 29 (by omega)).trans hsDP29
  have hfr15 : ∀ z, z < 22 ∨ 29 < z → w3 z = w z := fun z hz => (hfr7 z (by omega)).trans (hfr0 z hz)
  rw [er6]
  refine lb_if_eq (tgt := 24) hx hb dD_feeder_19 (by decide) (fun h9 => absurd (by decide) h9) (fun _ => ?_)
  refine lv_iconst (v := 0) hx hb dD_feeder_22 (by decide) ?_
  exact g_iret hQ hx hb hr hlk hG hK hS (by decide) (by decide) ⟨by first | rfl | omega | (simp_all; done) | grind, h5, ⟨h8, h9, h10, h11, h12, h13, h14⟩, hfr15⟩ dD_feeder_23

abbrev rmD_feeder_k : Room := { frames := 4, cells := 0, slots := 0, locals := 89 }
set_option maxRecDepth 100000 in
set_option maxHeartbeats 4000000 in
theorem kD_feeder_k {l : Launch} {D : va_G} {k : ClassId × ClassId × ClassId} {a : Nat → Nat} {B0 : Nat} {w : Nat → va_E} (hA : gA B0 a) {th : Int32} {n : Nat} {nr : Nat} {nf : Nat} {bw : Int32} {bd : Int32} {nt : Nat} {rd : Nat → Int32} {ma : Nat → Int32} {mb : Nat → Int32} {mc : Nat → Int32} {co : Nat → Int32} {jn : Nat → Int32} {ro : Nat → Int32} (hsD : sD k a w th n nr nf bw bd nt) (hsDP : sDP k a w rd ma mb mc co jn ro) (j : Nat) (hj : j < n) (hn : n ≤ 12) : Met l yD_feeder (tbw yD_feeder cD_feeder 2 (some .int)) rmD_feeder_k (gPc D k a B0 w [.ref (a 22), .int (nI j)]) (va_Qi (fun rr9 w1 => rr9 = (mFeed rd ma mb mc co jn ro n j) ∧ (sD k a w1 0 n nr nf bw bd nt) ∧ (sDP k a w1 rd ma mb mc co jn ro) ∧ ∀ z, z < 22 ∨ 29 < z → w1 z = w z) (gB D k a) (gF B0)) 0 0 (gF B0) := by
  have hsD22 := hsD
  obtain ⟨hsDP23, hsDP24, hsDP25, hsDP26, hsDP27, hsDP28, hsDP29⟩ := hsDP
  refine g_ofW (by decide) rfl (fun p e s m args below meth c Q hQ hx hb hr hlk hml hown hts hB hG hK hS ls hl => ?_)
  have hl : lv_has ls 2 [(0, .ref (a 22)), (1, .int (nI j))] := hl
  have hown : s.vm.findClass RD = some m.cls := hown
  have hfr0 : ∀ z, z < 22 ∨ 29 < z → w z = w z := fun _ _ => rfl
  refine lv_aload_n hx hb dD_feeder_0 rfl (lv_at hl 0 rfl) ?_
  refine lv_aload_n hx hb dD_feeder_1 rfl (lv_at hl 0 rfl) ?_
  refine lv_iload_n hx hb dD_feeder_2 rfl (lv_at hl 1 rfl) ?_
  refine g_ViR (i := 22) (As := [.int (nI j)]) (rest := [.ref (a 22)]) (kD_isPart hA hsD22 (nI j)) calD_isPart cvD_isPart mlD_85 hx hb hml hown hts hB hG hK hS (by decide) hsD22 rfl ⟨by decide, by decide⟩ rfl hl.1 rfl (Nat.le_of_ble_eq_true rfl) dD_feeder_3 ⟨by decide, by decide⟩ (fun H locs hG hS => ?_)
  refine lb_if_ne (tgt := 13) hx hb dD_feeder_6 (by decide) (fun _ => ?_) (fun h9 => absurd (rng_part hj (by omega)) h9)
  refine lv_iconst (v := 0) hx hb dD_feeder_13 (by decide) ?_
  refine lv_iconst (v := 0) hx hb dD_feeder_14 (by decide) ?_
  refine lv_iconst (v := 0) hx hb dD_feeder_15 (by decide) ?_
  refine g_Vi (i := 22) (As := [.int 0, .int 0, .int 0]) (rest := []) (kD_throwing hA hsD22 0 0 0) calD_throwing cvD_throwing mlD_77 hx hb hml hown hts hB hG hK hS (by decide) hsD22 rfl ⟨by decide, by decide⟩ rfl hl.1 rfl (Nat.le_of_ble_eq_true rfl) dD_feeder_16 ⟨by decide, by decide⟩ (fun r2 w3 H locs hp4 hG hS => ?_)
  obtain ⟨er6, h5, hfr7⟩ := hp4
  have h8 : w3 23 = .inl (k.2.2, 12, .inl rd) := (hfr7 23 (by omega)).trans hsDP23
  have h9 : w3 24 = .inl (k.1, 12, .inl ma) := (hfr7 24 (by omega)).trans hsDP24
  have h10 : w3 25 = .inl (k.1, 12, .inl mb) := (hfr7 25 (by omega)).trans hsDP25
  have h11 : w3 26 = .inl (k.1, 12, .inl mc) := (hfr7 26 (by omega)).trans hsDP26
  have h12 : w3 27 = .inl (k.1, 72, .inl co) := (hfr7 27 (by omega)).trans hsDP27
  have h13 : w3 28 = .inl (k.1, 12, .inl jn) := (hfr7 28 (by omega)).trans hsDP28
  have h14 : w3 29 = .inl (k.1, 12, .inl ro) := (hfr7 29 (by omega)).trans hsDP29
  have hfr15 : ∀ z, z < 22 ∨ 29 < z → w3 z = w z := fun z hz => (hfr7 z (by omega)).trans (hfr0 z hz)
  rw [er6]
  refine lb_if_eq (tgt := 24) hx hb dD_feeder_19 (by decide) (fun _ => ?_) (fun h9 => absurd h9 (by decide))
  refine lv_aload_n hx hb dD_feeder_24 rfl (lv_at hl 0 rfl) ?_
  refine lv_iload_n hx hb dD_feeder_25 rfl (lv_at hl 1 rfl) ?_
  refine g_ViR (i := 22) (As := [.int (nI j)]) (rest := []) (kD_feederOf hA h5 ⟨h8, h9, h10, h11, h12, h13, h14⟩ j (by omega) (by omega)) calD_feederOf cvD_feederOf mlD_119 hx hb hml hown hts hB hG hK hS (by decide) h5 rfl ⟨by decide, by decide⟩ rfl hl.1 rfl (Nat.le_of_ble_eq_true rfl) dD_feeder_26 ⟨by decide, by decide⟩ (fun H locs hG hS => ?_)
  exact g_iret hQ hx hb hr hlk hG hK hS (by decide) (by decide) ⟨by first | rfl | omega | (simp_all; done) | grind, h5, ⟨h8, h9, h10, h11, h12, h13, h14⟩, hfr15⟩ dD_feeder_29

abbrev rmD_riserRow_k : Room := { frames := 2, cells := 0, slots := 0, locals := 42 }
set_option maxRecDepth 100000 in
set_option maxHeartbeats 4000000 in
theorem kD_riserRow_k {l : Launch} {D : va_G} {k : ClassId × ClassId × ClassId} {a : Nat → Nat} {B0 : Nat} {w : Nat → va_E} (hA : gA B0 a) {th : Int32} {n : Nat} {nr : Nat} {nf : Nat} {bw : Int32} {bd : Int32} {nt : Nat} {md : Nat → Int32} {mh : Nat → Int32} (hsD : sD k a w th n nr nf bw bd nt) (hsDR : sDR k a w md mh) (x : Int32) (y : Int32) (hn : nr < 8) (h1 : szR x) (h2 : szR y) : Met l yD_riserRow (tbw yD_riserRow cD_riserRow 3 (some .int)) rmD_riserRow_k (gPc D k a B0 w [.ref (a 22), .int x, .int y]) (va_Qi (fun rr9 w1 => rr9 = (nI (nr + 1)) ∧ (sD k a w1 0 n (nr + 1) nf bw bd nt) ∧ (sDR k a w1 (upd md nr x) (upd mh nr y)) ∧ ∀ z, (z < 30 ∨ 31 < z) ∧ z ≠ 22 → w1 z = w z) (gB D k a) (gF B0)) 0 0 (gF B0) := by
  have hsD22 := hsD
  obtain ⟨hsDR30, hsDR31⟩ := hsDR
  refine g_ofW (by decide) rfl (fun p e s m args below meth c Q hQ hx hb hr hlk hml hown hts hB hG hK hS ls hl => ?_)
  have hl : lv_has ls 3 [(0, .ref (a 22)), (1, .int x), (2, .int y)] := hl
  have hown : s.vm.findClass RD = some m.cls := hown
  have hfr0 : ∀ z, (z < 30 ∨ 31 < z) ∧ z ≠ 22 → w z = w z := fun _ _ => rfl
  refine lv_aload_n hx hb dD_riserRow_0 rfl (lv_at hl 0 rfl) ?_
  refine lv_aload_n hx hb dD_riserRow_1 rfl (lv_at hl 0 rfl) ?_
  refine g_get hx hb hts inD hown hK hG 22 (by decide) hsD22 rfl 9 (by decide) lkD_108 rfl dD_riserRow_2 ?_
  refine lv_bipush (v := 8) hx hb dD_riserRow_5 (by decide) ?_
  refine ln_icmp_ne (x := nr) (y := 8) (tgt := 14) hx hb dD_riserRow_7 (by decide) (by omega) (by decide) (fun c1 => ?_) (fun c1 => absurd c1 (by omega))
  refine lv_iconst (v := 0) hx hb dD_riserRow_14 (by decide) ?_
  refine lv_iload_n hx hb dD_riserRow_15 rfl (lv_at hl 1 rfl) ?_
  refine g_SiR (As := [.int x]) (rest := [.int 0, .ref (a 22)]) (kD_isSize hA x) calD_isSize cvD_isSize mlD_73 hx hb hml hown hts hB hG hK hS ⟨by decide, by decide⟩ rfl hl.1 rfl (Nat.le_of_ble_eq_true rfl) dD_riserRow_16 ⟨by decide, by decide⟩ (fun H locs hG hS => ?_)
  refine lb_if_eq (tgt := 29) hx hb dD_riserRow_19 (by decide) (fun h9 => absurd h1 h9) (fun _ => ?_)
  refine lv_iload_n hx hb dD_riserRow_22 rfl (lv_at hl 2 rfl) ?_
  refine g_SiR (As := [.int y]) (rest := [.int 0, .ref (a 22)]) (kD_isSize hA y) calD_isSize cvD_isSize mlD_73 hx hb hml hown hts hB hG hK hS ⟨by decide, by decide⟩ rfl hl.1 rfl (Nat.le_of_ble_eq_true rfl) dD_riserRow_23 ⟨by decide, by decide⟩ (fun H locs hG hS => ?_)
  refine lb_if_ne (tgt := 33) hx hb dD_riserRow_26 (by decide) (fun _ => ?_) (fun h9 => absurd h2 h9)
  refine lv_iconst (v := 0) hx hb dD_riserRow_33 (by decide) ?_
  refine lv_iconst (v := 0) hx hb dD_riserRow_34 (by decide) ?_
  refine g_Vi (i := 22) (As := [.int 0, .int 0, .int 0]) (rest := []) (kD_throwing hA hsD22 0 0 0) calD_throwing cvD_throwing mlD_77 hx hb hml hown hts hB hG hK hS (by decide) hsD22 rfl ⟨by decide, by decide⟩ rfl hl.1 rfl (Nat.le_of_ble_eq_true rfl) dD_riserRow_35 ⟨by decide, by decide⟩ (fun r4 w5 H locs hp6 hG hS => ?_)
  obtain ⟨er8, h7, hfr9⟩ := hp6
  have h10 : w5 30 = .inl (k.1, 8, .inl md) := (hfr9 30 (by omega)).trans hsDR30
  have h11 : w5 31 = .inl (k.1, 8, .inl mh) := (hfr9 31 (by omega)).trans hsDR31
  have hfr12 : ∀ z, (z < 30 ∨ 31 < z) ∧ z ≠ 22 → w5 z = w z := fun z hz => (hfr9 z (by omega)).trans (hfr0 z hz)
  rw [er8]
  refine lb_if_eq (tgt := 43) hx hb dD_riserRow_38 (by decide) (fun _ => ?_) (fun h9 => absurd h9 (by decide))
  refine lv_aload_n hx hb dD_riserRow_43 rfl (lv_at hl 0 rfl) ?_
  refine g_get hx hb hts inD hown hK hG 22 (by decide) h7 rfl 10 (by decide) lkD_32 rfl dD_riserRow_44 ?_
  refine lv_aload_n hx hb dD_riserRow_47 rfl (lv_at hl 0 rfl) ?_
  refine g_get hx hb hts inD hown hK hG 22 (by decide) h7 rfl 9 (by decide) lkD_108 rfl dD_riserRow_48 ?_
  refine lv_iload_n hx hb dD_riserRow_51 rfl (lv_at hl 1 rfl) ?_
  refine g_iast hx hb hK hA hG hS 30 (by decide) h10 (j := nr) (by omega) (by decide) dD_riserRow_52 (fun H locs hG hS => ?_)
  obtain ⟨w14, hw15⟩ : ∃ zz9, zz9 = va_up w5 30 (.inl (k.1, 8, .inl (upd md nr x))) := ⟨_, rfl⟩
  replace hG : gW D a w14 H := by rw [hw15]; exact hG
  have h16 : w14 22 = .inr (5, [.int (thrI 0 0 0), .int (nI n), .ref (a 23), .ref (a 24), .ref (a 25), .ref (a 26), .ref (a 27), .ref (a 28), .ref (a 29), .int (nI nr), .ref (a 30), .ref (a 31), .int (nI nf), .ref (a 32), .ref (a 33), .int bw, .int bd, .int (nI nt), .ref (a 34), .ref (a 35), .ref (a 36), .ref (a 37)]) := by rw [hw15]; exact h7
  have h17 : w14 30 = .inl (k.1, 8, .inl (upd md nr x)) := by rw [hw15]; rfl
  have h18 : w14 31 = .inl (k.1, 8, .inl mh) := by rw [hw15]; exact h11
  have hfr19 : ∀ z, (z < 30 ∨ 31 < z) ∧ z ≠ 22 → w14 z = w z := fun z hz => by rw [hw15]; exact (va_up_ne _ _ (by omega)).trans (hfr12 z hz)
  refine lv_aload_n hx hb dD_riserRow_53 rfl (lv_at hl 0 rfl) ?_
  refine g_get hx hb hts inD hown hK hG 22 (by decide) h16 rfl 11 (by decide) lkD_35 rfl dD_riserRow_54 ?_
  refine lv_aload_n hx hb dD_riserRow_57 rfl (lv_at hl 0 rfl) ?_
  refine g_get hx hb hts inD hown hK hG 22 (by decide) h16 rfl 9 (by decide) lkD_108 rfl dD_riserRow_58 ?_
  refine lv_iload_n hx hb dD_riserRow_61 rfl (lv_at hl 2 rfl) ?_
  refine g_iast hx hb hK hA hG hS 31 (by decide) h18 (j := nr) (by omega) (by decide) dD_riserRow_62 (fun H locs hG hS => ?_)
  obtain ⟨w20, hw21⟩ : ∃ zz9, zz9 = va_up w14 31 (.inl (k.1, 8, .inl (upd mh nr y))) := ⟨_, rfl⟩
  replace hG : gW D a w20 H := by rw [hw21]; exact hG
  have h22 : w20 22 = .inr (5, [.int (thrI 0 0 0), .int (nI n), .ref (a 23), .ref (a 24), .ref (a 25), .ref (a 26), .ref (a 27), .ref (a 28), .ref (a 29), .int (nI nr), .ref (a 30), .ref (a 31), .int (nI nf), .ref (a 32), .ref (a 33), .int bw, .int bd, .int (nI nt), .ref (a 34), .ref (a 35), .ref (a 36), .ref (a 37)]) := by rw [hw21]; exact h16
  have h23 : w20 30 = .inl (k.1, 8, .inl (upd md nr x)) := by rw [hw21]; exact h17
  have h24 : w20 31 = .inl (k.1, 8, .inl (upd mh nr y)) := by rw [hw21]; rfl
  have hfr25 : ∀ z, (z < 30 ∨ 31 < z) ∧ z ≠ 22 → w20 z = w z := fun z hz => by rw [hw21]; exact (va_up_ne _ _ (by omega)).trans (hfr19 z hz)
  refine lv_aload_n hx hb dD_riserRow_63 rfl (lv_at hl 0 rfl) ?_
  refine lv_dup hx hb dD_riserRow_64 rfl ?_
  refine g_get hx hb hts inD hown hK hG 22 (by decide) h22 rfl 9 (by decide) lkD_108 rfl dD_riserRow_65 ?_
  refine lv_iconst (v := 1) hx hb dD_riserRow_68 (by decide) ?_
  refine ln_iadd (x := nr) (y := 1) hx hb dD_riserRow_69 ?_
  refine g_put hx hb hts inD tyD tokD nokD hown hK hA hG hS 22 (by decide) h22 rfl 9 (by decide) lkD_108 rfl (ty := .int) (by decide +kernel) rfl rfl (Nat.le_of_ble_eq_true rfl) dD_riserRow_70 (fun H locs hG hS => ?_)
  obtain ⟨w26, hw27⟩ : ∃ zz9, zz9 = va_up w20 22 (.inr (5, [.int (thrI 0 0 0), .int (nI n), .ref (a 23), .ref (a 24), .ref (a 25), .ref (a 26), .ref (a 27), .ref (a 28), .ref (a 29), .int (nI (nr + 1)), .ref (a 30), .ref (a 31), .int (nI nf), .ref (a 32), .ref (a 33), .int bw, .int bd, .int (nI nt), .ref (a 34), .ref (a 35), .ref (a 36), .ref (a 37)])) := ⟨_, rfl⟩
  replace hG : gW D a w26 H := by rw [hw27]; exact hG
  have h28 : w26 22 = .inr (5, [.int (thrI 0 0 0), .int (nI n), .ref (a 23), .ref (a 24), .ref (a 25), .ref (a 26), .ref (a 27), .ref (a 28), .ref (a 29), .int (nI (nr + 1)), .ref (a 30), .ref (a 31), .int (nI nf), .ref (a 32), .ref (a 33), .int bw, .int bd, .int (nI nt), .ref (a 34), .ref (a 35), .ref (a 36), .ref (a 37)]) := by rw [hw27]; rfl
  have h29 : w26 30 = .inl (k.1, 8, .inl (upd md nr x)) := by rw [hw27]; exact h23
  have h30 : w26 31 = .inl (k.1, 8, .inl (upd mh nr y)) := by rw [hw27]; exact h24
  have hfr31 : ∀ z, (z < 30 ∨ 31 < z) ∧ z ≠ 22 → w26 z = w z := fun z hz => by rw [hw27]; exact (va_up_ne _ _ (by omega)).trans (hfr25 z hz)
  refine lv_aload_n hx hb dD_riserRow_73 rfl (lv_at hl 0 rfl) ?_
  refine g_get hx hb hts inD hown hK hG 22 (by decide) h28 rfl 9 (by decide) lkD_108 rfl dD_riserRow_74 ?_
  exact g_iret hQ hx hb hr hlk hG hK hS (by decide) (by decide) ⟨by first | rfl | omega | (simp_all; done) | grind, h28, ⟨h29, h30⟩, hfr31⟩ dD_riserRow_77

abbrev rmD_riserRow_f : Room := { frames := 2, cells := 0, slots := 0, locals := 42 }
set_option maxRecDepth 100000 in
set_option maxHeartbeats 4000000 in
theorem kD_riserRow_f {l : Launch} {D : va_G} {k : ClassId × ClassId × ClassId} {a : Nat → Nat} {B0 : Nat} {w : Nat → va_E} (hA : gA B0 a) {th : Int32} {n : Nat} {nr : Nat} {nf : Nat} {bw : Int32} {bd : Int32} {nt : Nat} {md : Nat → Int32} {mh : Nat → Int32} (hsD : sD k a w th n nr nf bw bd nt) (hsDR : sDR k a w md mh) (x : Int32) (y : Int32) (hn : nr = 8) : Met l yD_riserRow (tbw yD_riserRow cD_riserRow 3 (some .int)) rmD_riserRow_f (gPc D k a B0 w [.ref (a 22), .int x, .int y]) (va_Qi (fun rr9 w1 => rr9 = 0 ∧ (sD k a w1 1 n nr nf bw bd nt) ∧ (sDR k a w1 md mh) ∧ ∀ z, (z < 30 ∨ 31 < z) ∧ z ≠ 22 → w1 z = w z) (gB D k a) (gF B0)) 0 0 (gF B0) := by
  have hsD22 := hsD
  obtain ⟨hsDR30, hsDR31⟩ := hsDR
  refine g_ofW (by decide) rfl (fun p e s m args below meth c Q hQ hx hb hr hlk hml hown hts hB hG hK hS ls hl => ?_)
  have hl : lv_has ls 3 [(0, .ref (a 22)), (1, .int x), (2, .int y)] := hl
  have hown : s.vm.findClass RD = some m.cls := hown
  have hfr0 : ∀ z, (z < 30 ∨ 31 < z) ∧ z ≠ 22 → w z = w z := fun _ _ => rfl
  refine lv_aload_n hx hb dD_riserRow_0 rfl (lv_at hl 0 rfl) ?_
  refine lv_aload_n hx hb dD_riserRow_1 rfl (lv_at hl 0 rfl) ?_
  refine g_get hx hb hts inD hown hK hG 22 (by decide) hsD22 rfl 9 (by decide) lkD_108 rfl dD_riserRow_2 ?_
  refine lv_bipush (v := 8) hx hb dD_riserRow_5 (by decide) ?_
  refine ln_icmp_ne (x := nr) (y := 8) (tgt := 14) hx hb dD_riserRow_7 (by decide) (by omega) (by decide) (fun c1 => absurd c1 (by omega)) (fun c1 => ?_)
  refine lv_iconst (v := 1) hx hb dD_riserRow_10 (by decide) ?_
  refine lv_goto (tgt := 15) hx hb dD_riserRow_11 (by decide) ?_
  refine lv_iload_n hx hb dD_riserRow_15 rfl (lv_at hl 1 rfl) ?_
  refine g_SiR (As := [.int x]) (rest := [.int 1, .ref (a 22)]) (kD_isSize hA x) calD_isSize cvD_isSize mlD_73 hx hb hml hown hts hB hG hK hS ⟨by decide, by decide⟩ rfl hl.1 rfl (Nat.le_of_ble_eq_true rfl) dD_riserRow_16 ⟨by decide, by decide⟩ (fun H locs hG hS => ?_)
  refine lb_if_eq (tgt := 29) hx hb dD_riserRow_19 (by decide) (fun c2 => ?_) (fun c2 => ?_)
  · refine lv_iconst (v := 1) hx hb dD_riserRow_29 (by decide) ?_
    refine lv_goto (tgt := 34) hx hb dD_riserRow_30 (by decide) ?_
    refine lv_iconst (v := 0) hx hb dD_riserRow_34 (by decide) ?_
    refine g_Vi (i := 22) (As := [.int 1, .int 1, .int 0]) (rest := []) (kD_throwing hA hsD22 1 1 0) calD_throwing cvD_throwing mlD_77 hx hb hml hown hts hB hG hK hS (by decide) hsD22 rfl ⟨by decide, by decide⟩ rfl hl.1 rfl (Nat.le_of_ble_eq_true rfl) dD_riserRow_35 ⟨by decide, by decide⟩ (fun r3 w4 H locs hp5 hG hS => ?_)
    obtain ⟨er7, h6, hfr8⟩ := hp5
    have h9 : w4 30 = .inl (k.1, 8, .inl md) := (hfr8 30 (by omega)).trans hsDR30
    have h10 : w4 31 = .inl (k.1, 8, .inl mh) := (hfr8 31 (by omega)).trans hsDR31
    have hfr11 : ∀ z, (z < 30 ∨ 31 < z) ∧ z ≠ 22 → w4 z = w z := fun z hz => (hfr8 z (by omega)).trans (hfr0 z hz)
    rw [er7]
    refine lb_if_eq (tgt := 43) hx hb dD_riserRow_38 (by decide) (fun h9 => absurd (by decide) h9) (fun _ => ?_)
    refine lv_iconst (v := 0) hx hb dD_riserRow_41 (by decide) ?_
    exact g_iret hQ hx hb hr hlk hG hK hS (by decide) (by decide) ⟨by first | rfl | omega | (simp_all; done) | grind, h6, ⟨h9, h10⟩, hfr11⟩ dD_riserRow_42
  · refine lv_iload_n hx hb dD_riserRow_22 rfl (lv_at hl 2 rfl) ?_
    refine g_SiR (As := [.int y]) (rest := [.int 1, .ref (a 22)]) (kD_isSize hA y) calD_isSize cvD_isSize mlD_73 hx hb hml hown hts hB hG hK hS ⟨by decide, by decide⟩ rfl hl.1 rfl (Nat.le_of_ble_eq_true rfl) dD_riserRow_23 ⟨by decide, by decide⟩ (fun H locs hG hS => ?_)
    refine lb_if_ne (tgt := 33) hx hb dD_riserRow_26 (by decide) (fun c13 => ?_) (fun c13 => ?_)
    · refine lv_iconst (v := 0) hx hb dD_riserRow_33 (by decide) ?_
      refine lv_iconst (v := 0) hx hb dD_riserRow_34 (by decide) ?_
      refine g_Vi (i := 22) (As := [.int 1, .int 0, .int 0]) (rest := []) (kD_throwing hA hsD22 1 0 0) calD_throwing cvD_throwing mlD_77 hx hb hml hown hts hB hG hK hS (by decide) hsD22 rfl ⟨by decide, by decide⟩ rfl hl.1 rfl (Nat.le_of_ble_eq_true rfl) dD_riserRow_35 ⟨by decide, by decide⟩ (fun r14 w15 H locs hp16 hG hS => ?_)
      obtain ⟨er18, h17, hfr19⟩ := hp16
      have h20 : w15 30 = .inl (k.1, 8, .inl md) := (hfr19 30 (by omega)).trans hsDR30
      have h21 : w15 31 = .inl (k.1, 8, .inl mh) := (hfr19 31 (by omega)).trans hsDR31
      have hfr22 : ∀ z, (z < 30 ∨ 31 < z) ∧ z ≠ 22 → w15 z = w z := fun z hz => (hfr19 z (by omega)).trans (hfr0 z hz)
      rw [er18]
      refine lb_if_eq (tgt := 43) hx hb dD_riserRow_38 (by decide) (fun h9 => absurd (by decide) h9) (fun _ => ?_)
      refine lv_iconst (v := 0) hx hb dD_riserRow_41 (by decide) ?_
      exact g_iret hQ hx hb hr hlk hG hK hS (by decide) (by decide) ⟨by first | rfl | omega | (simp_all; done) | grind, h17, ⟨h20, h21⟩, hfr22⟩ dD_riserRow_42
    · refine lv_iconst (v := 1) hx hb dD_riserRow_29 (by decide) ?_
      refine lv_goto (tgt := 34) hx hb dD_riserRow_30 (by decide) ?_
      refine lv_iconst (v := 0) hx hb dD_riserRow_34 (by decide) ?_
      refine g_Vi (i := 22) (As := [.int 1, .int 1, .int 0]) (rest := []) (kD_throwing hA hsD22 1 1 0) calD_throwing cvD_throwing mlD_77 hx hb hml hown hts hB hG hK hS (by decide) hsD22 rfl ⟨by decide, by decide⟩ rfl hl.1 rfl (Nat.le_of_ble_eq_true rfl) dD_riserRow_35 ⟨by decide, by decide⟩ (fun r24 w25 H locs hp26 hG hS => ?_)
      obtain ⟨er28, h27, hfr29⟩ := hp26
      have h30 : w25 30 = .inl (k.1, 8, .inl md) := (hfr29 30 (by omega)).trans hsDR30
      have h31 : w25 31 = .inl (k.1, 8, .inl mh) := (hfr29 31 (by omega)).trans hsDR31
      have hfr32 : ∀ z, (z < 30 ∨ 31 < z) ∧ z ≠ 22 → w25 z = w z := fun z hz => (hfr29 z (by omega)).trans (hfr0 z hz)
      rw [er28]
      refine lb_if_eq (tgt := 43) hx hb dD_riserRow_38 (by decide) (fun h9 => absurd (by decide) h9) (fun _ => ?_)
      refine lv_iconst (v := 0) hx hb dD_riserRow_41 (by decide) ?_
      exact g_iret hQ hx hb hr hlk hG hK hS (by decide) (by decide) ⟨by first | rfl | omega | (simp_all; done) | grind, h27, ⟨h30, h31⟩, hfr32⟩ dD_riserRow_42

abbrev rmD_riserRow_z : Room := { frames := 2, cells := 0, slots := 0, locals := 42 }
set_option maxRecDepth 100000 in
set_option maxHeartbeats 4000000 in
theorem kD_riserRow_z {l : Launch} {D : va_G} {k : ClassId × ClassId × ClassId} {a : Nat → Nat} {B0 : Nat} {w : Nat → va_E} (hA : gA B0 a) {th : Int32} {n : Nat} {nr : Nat} {nf : Nat} {bw : Int32} {bd : Int32} {nt : Nat} {md : Nat → Int32} {mh : Nat → Int32} (hsD : sD k a w th n nr nf bw bd nt) (hsDR : sDR k a w md mh) (x : Int32) (y : Int32) (hn : nr < 8) (hz : ¬ (szR x ∧ szR y)) : Met l yD_riserRow (tbw yD_riserRow cD_riserRow 3 (some .int)) rmD_riserRow_z (gPc D k a B0 w [.ref (a 22), .int x, .int y]) (va_Qi (fun rr9 w1 => rr9 = 0 ∧ (sD k a w1 2 n nr nf bw bd nt) ∧ (sDR k a w1 md mh) ∧ ∀ z, (z < 30 ∨ 31 < z) ∧ z ≠ 22 → w1 z = w z) (gB D k a) (gF B0)) 0 0 (gF B0) := by
  have hsD22 := hsD
  obtain ⟨hsDR30, hsDR31⟩ := hsDR
  refine g_ofW (by decide) rfl (fun p e s m args below meth c Q hQ hx hb hr hlk hml hown hts hB hG hK hS ls hl => ?_)
  have hl : lv_has ls 3 [(0, .ref (a 22)), (1, .int x), (2, .int y)] := hl
  have hown : s.vm.findClass RD = some m.cls := hown
  have hfr0 : ∀ z, (z < 30 ∨ 31 < z) ∧ z ≠ 22 → w z = w z := fun _ _ => rfl
  refine lv_aload_n hx hb dD_riserRow_0 rfl (lv_at hl 0 rfl) ?_
  refine lv_aload_n hx hb dD_riserRow_1 rfl (lv_at hl 0 rfl) ?_
  refine g_get hx hb hts inD hown hK hG 22 (by decide) hsD22 rfl 9 (by decide) lkD_108 rfl dD_riserRow_2 ?_
  refine lv_bipush (v := 8) hx hb dD_riserRow_5 (by decide) ?_
  refine ln_icmp_ne (x := nr) (y := 8) (tgt := 14) hx hb dD_riserRow_7 (by decide) (by omega) (by decide) (fun c1 => ?_) (fun c1 => absurd c1 (by omega))
  refine lv_iconst (v := 0) hx hb dD_riserRow_14 (by decide) ?_
  refine lv_iload_n hx hb dD_riserRow_15 rfl (lv_at hl 1 rfl) ?_
  refine g_SiR (As := [.int x]) (rest := [.int 0, .ref (a 22)]) (kD_isSize hA x) calD_isSize cvD_isSize mlD_73 hx hb hml hown hts hB hG hK hS ⟨by decide, by decide⟩ rfl hl.1 rfl (Nat.le_of_ble_eq_true rfl) dD_riserRow_16 ⟨by decide, by decide⟩ (fun H locs hG hS => ?_)
  refine lb_if_eq (tgt := 29) hx hb dD_riserRow_19 (by decide) (fun c2 => ?_) (fun c2 => ?_)
  · refine lv_iconst (v := 1) hx hb dD_riserRow_29 (by decide) ?_
    refine lv_goto (tgt := 34) hx hb dD_riserRow_30 (by decide) ?_
    refine lv_iconst (v := 0) hx hb dD_riserRow_34 (by decide) ?_
    refine g_Vi (i := 22) (As := [.int 0, .int 1, .int 0]) (rest := []) (kD_throwing hA hsD22 0 1 0) calD_throwing cvD_throwing mlD_77 hx hb hml hown hts hB hG hK hS (by decide) hsD22 rfl ⟨by decide, by decide⟩ rfl hl.1 rfl (Nat.le_of_ble_eq_true rfl) dD_riserRow_35 ⟨by decide, by decide⟩ (fun r3 w4 H locs hp5 hG hS => ?_)
    obtain ⟨er7, h6, hfr8⟩ := hp5
    have h9 : w4 30 = .inl (k.1, 8, .inl md) := (hfr8 30 (by omega)).trans hsDR30
    have h10 : w4 31 = .inl (k.1, 8, .inl mh) := (hfr8 31 (by omega)).trans hsDR31
    have hfr11 : ∀ z, (z < 30 ∨ 31 < z) ∧ z ≠ 22 → w4 z = w z := fun z hz => (hfr8 z (by omega)).trans (hfr0 z hz)
    rw [er7]
    refine lb_if_eq (tgt := 43) hx hb dD_riserRow_38 (by decide) (fun h9 => absurd (by decide) h9) (fun _ => ?_)
    refine lv_iconst (v := 0) hx hb dD_riserRow_41 (by decide) ?_
    exact g_iret hQ hx hb hr hlk hG hK hS (by decide) (by decide) ⟨by first | rfl | omega | (simp_all; done) | grind, h6, ⟨h9, h10⟩, hfr11⟩ dD_riserRow_42
  · refine lv_iload_n hx hb dD_riserRow_22 rfl (lv_at hl 2 rfl) ?_
    refine g_SiR (As := [.int y]) (rest := [.int 0, .ref (a 22)]) (kD_isSize hA y) calD_isSize cvD_isSize mlD_73 hx hb hml hown hts hB hG hK hS ⟨by decide, by decide⟩ rfl hl.1 rfl (Nat.le_of_ble_eq_true rfl) dD_riserRow_23 ⟨by decide, by decide⟩ (fun H locs hG hS => ?_)
    refine lb_if_ne (tgt := 33) hx hb dD_riserRow_26 (by decide) (fun c13 => ?_) (fun c13 => ?_)
    · exact absurd ⟨by assumption, by assumption⟩ hz
    · refine lv_iconst (v := 1) hx hb dD_riserRow_29 (by decide) ?_
      refine lv_goto (tgt := 34) hx hb dD_riserRow_30 (by decide) ?_
      refine lv_iconst (v := 0) hx hb dD_riserRow_34 (by decide) ?_
      refine g_Vi (i := 22) (As := [.int 0, .int 1, .int 0]) (rest := []) (kD_throwing hA hsD22 0 1 0) calD_throwing cvD_throwing mlD_77 hx hb hml hown hts hB hG hK hS (by decide) hsD22 rfl ⟨by decide, by decide⟩ rfl hl.1 rfl (Nat.le_of_ble_eq_true rfl) dD_riserRow_35 ⟨by decide, by decide⟩ (fun r14 w15 H locs hp16 hG hS => ?_)
      obtain ⟨er18, h17, hfr19⟩ := hp16
      have h20 : w15 30 = .inl (k.1, 8, .inl md) := (hfr19 30 (by omega)).trans hsDR30
      have h21 : w15 31 = .inl (k.1, 8, .inl mh) := (hfr19 31 (by omega)).trans hsDR31
      have hfr22 : ∀ z, (z < 30 ∨ 31 < z) ∧ z ≠ 22 → w15 z = w z := fun z hz => (hfr19 z (by omega)).trans (hfr0 z hz)
      rw [er18]
      refine lb_if_eq (tgt := 43) hx hb dD_riserRow_38 (by decide) (fun h9 => absurd (by decide) h9) (fun _ => ?_)
      refine lv_iconst (v := 0) hx hb dD_riserRow_41 (by decide) ?_
      exact g_iret hQ hx hb hr hlk hG hK hS (by decide) (by decide) ⟨by first | rfl | omega | (simp_all; done) | grind, h17, ⟨h20, h21⟩, hfr22⟩ dD_riserRow_42

abbrev rmD_riser_p : Room := { frames := 3, cells := 0, slots := 0, locals := 70 }
set_option maxRecDepth 100000 in
set_option maxHeartbeats 4000000 in
theorem kD_riser_p {l : Launch} {D : va_G} {k : ClassId × ClassId × ClassId} {a : Nat → Nat} {B0 : Nat} {w : Nat → va_E} (hA : gA B0 a) {th : Int32} {n : Nat} {nr : Nat} {nf : Nat} {bw : Int32} {bd : Int32} {nt : Nat} {rd : Nat → Int32} {ma : Nat → Int32} {mb : Nat → Int32} {mc : Nat → Int32} {co : Nat → Int32} {jn : Nat → Int32} {ro : Nat → Int32} {md : Nat → Int32} {mh : Nat → Int32} (hsD : sD k a w th n nr nf bw bd nt) (hsDP : sDP k a w rd ma mb mc co jn ro) (hsDR : sDR k a w md mh) (q : Int32) (hq : ¬ rngI q 0 (nI n - 1)) : Met l yD_riser (tbw yD_riser cD_riser 4 (some .int)) rmD_riser_p (gPc D k a B0 w [.ref (a 22), .int q]) (va_Qi (fun rr9 w1 => rr9 = 0 ∧ (sD k a w1 1 n nr nf bw bd nt) ∧ (sDP k a w1 rd ma mb mc co jn ro) ∧ (sDR k a w1 md mh) ∧ ∀ z, z < 22 ∨ 31 < z → w1 z = w z) (gB D k a) (gF B0)) 0 0 (gF B0) := by
  have hsD22 := hsD
  obtain ⟨hsDP23, hsDP24, hsDP25, hsDP26, hsDP27, hsDP28, hsDP29⟩ := hsDP
  obtain ⟨hsDR30, hsDR31⟩ := hsDR
  refine g_ofW (by decide) rfl (fun p e s m args below meth c Q hQ hx hb hr hlk hml hown hts hB hG hK hS ls hl => ?_)
  have hl : lv_has ls 4 [(0, .ref (a 22)), (1, .int q)] := hl
  have hown : s.vm.findClass RD = some m.cls := hown
  have hfr0 : ∀ z, z < 22 ∨ 31 < z → w z = w z := fun _ _ => rfl
  refine lv_aload_n hx hb dD_riser_0 rfl (lv_at hl 0 rfl) ?_
  refine lv_iload_n hx hb dD_riser_1 rfl (lv_at hl 1 rfl) ?_
  refine g_ViR (i := 22) (As := [.int q]) (rest := []) (kD_isPart hA hsD22 q) calD_isPart cvD_isPart mlD_85 hx hb hml hown hts hB hG hK hS (by decide) hsD22 rfl ⟨by decide, by decide⟩ rfl hl.1 rfl (Nat.le_of_ble_eq_true rfl) dD_riser_2 ⟨by decide, by decide⟩ (fun H locs hG hS => ?_)
  refine lb_if_ne (tgt := 12) hx hb dD_riser_5 (by decide) (fun h9 => absurd h9 hq) (fun _ => ?_)
  refine lv_iconst (v := 1) hx hb dD_riser_8 (by decide) ?_
  refine lv_goto (tgt := 13) hx hb dD_riser_9 (by decide) ?_
  refine lv_istore_n (lv' := [(2, .int 1), (0, .ref (a 22)), (1, .int q)]) hx hb dD_riser_13 rfl hl (by decide) rfl (fun ls hl => ?_)
  refine lv_iload_n hx hb dD_riser_14 rfl (lv_at hl 0 rfl) ?_
  refine lv_if_ne (tgt := 54) hx hb dD_riser_15 (by decide) (fun _ => ?_) (fun h9 => absurd h9 (by decide))
  refine lv_iconst (v := 0) hx hb dD_riser_54 (by decide) ?_
  refine lv_istore_n (lv' := [(3, .int 0), (2, .int 1), (0, .ref (a 22)), (1, .int q)]) hx hb dD_riser_55 rfl hl (by decide) rfl (fun ls hl => ?_)
  refine lv_aload_n hx hb dD_riser_56 rfl (lv_at hl 2 rfl) ?_
  refine lv_iload_n hx hb dD_riser_57 rfl (lv_at hl 1 rfl) ?_
  refine lv_iload_n hx hb dD_riser_58 rfl (lv_at hl 0 rfl) ?_
  refine lv_iconst (v := 0) hx hb dD_riser_59 (by decide) ?_
  refine g_Vi (i := 22) (As := [.int 1, .int 0, .int 0]) (rest := []) (kD_throwing hA hsD22 1 0 0) calD_throwing cvD_throwing mlD_77 hx hb hml hown hts hB hG hK hS (by decide) hsD22 rfl ⟨by decide, by decide⟩ rfl hl.1 rfl (Nat.le_of_ble_eq_true rfl) dD_riser_60 ⟨by decide, by decide⟩ (fun r3 w4 H locs hp5 hG hS => ?_)
  obtain ⟨er7, h6, hfr8⟩ := hp5
  have h9 : w4 23 = .inl (k.2.2, 12, .inl rd) := (hfr8 23 (by omega)).trans hsDP23
  have h10 : w4 24 = .inl (k.1, 12, .inl ma) := (hfr8 24 (by omega)).trans hsDP24
  have h11 : w4 25 = .inl (k.1, 12, .inl mb) := (hfr8 25 (by omega)).trans hsDP25
  have h12 : w4 26 = .inl (k.1, 12, .inl mc) := (hfr8 26 (by omega)).trans hsDP26
  have h13 : w4 27 = .inl (k.1, 72, .inl co) := (hfr8 27 (by omega)).trans hsDP27
  have h14 : w4 28 = .inl (k.1, 12, .inl jn) := (hfr8 28 (by omega)).trans hsDP28
  have h15 : w4 29 = .inl (k.1, 12, .inl ro) := (hfr8 29 (by omega)).trans hsDP29
  have h16 : w4 30 = .inl (k.1, 8, .inl md) := (hfr8 30 (by omega)).trans hsDR30
  have h17 : w4 31 = .inl (k.1, 8, .inl mh) := (hfr8 31 (by omega)).trans hsDR31
  have hfr18 : ∀ z, z < 22 ∨ 31 < z → w4 z = w z := fun z hz => (hfr8 z (by omega)).trans (hfr0 z hz)
  rw [er7]
  refine lb_if_eq (tgt := 68) hx hb dD_riser_63 (by decide) (fun h9 => absurd (by decide) h9) (fun _ => ?_)
  refine lv_iconst (v := 0) hx hb dD_riser_66 (by decide) ?_
  exact g_iret hQ hx hb hr hlk hG hK hS (by decide) (by decide) ⟨by first | rfl | omega | (simp_all; done) | grind, h6, ⟨h9, h10, h11, h12, h13, h14, h15⟩, ⟨h16, h17⟩, hfr18⟩ dD_riser_67

abbrev rmD_riser_t : Room := { frames := 3, cells := 0, slots := 0, locals := 70 }
set_option maxRecDepth 100000 in
set_option maxHeartbeats 4000000 in
theorem kD_riser_t {l : Launch} {D : va_G} {k : ClassId × ClassId × ClassId} {a : Nat → Nat} {B0 : Nat} {w : Nat → va_E} (hA : gA B0 a) {th : Int32} {n : Nat} {nr : Nat} {nf : Nat} {bw : Int32} {bd : Int32} {nt : Nat} {rd : Nat → Int32} {ma : Nat → Int32} {mb : Nat → Int32} {mc : Nat → Int32} {co : Nat → Int32} {jn : Nat → Int32} {ro : Nat → Int32} {md : Nat → Int32} {mh : Nat → Int32} (hsD : sD k a w th n nr nf bw bd nt) (hsDP : sDP k a w rd ma mb mc co jn ro) (hsDR : sDR k a w md mh) (j : Nat) (hj : j < n) (hn : n ≤ 12) (ht : ¬ 0 < mLo rd ma mb mc co j) : Met l yD_riser (tbw yD_riser cD_riser 4 (some .int)) rmD_riser_t (gPc D k a B0 w [.ref (a 22), .int (nI j)]) (va_Qi (fun rr9 w1 => rr9 = 0 ∧ (sD k a w1 2 n nr nf bw bd nt) ∧ (sDP k a w1 rd ma mb mc co jn ro) ∧ (sDR k a w1 md mh) ∧ ∀ z, z < 22 ∨ 31 < z → w1 z = w z) (gB D k a) (gF B0)) 0 0 (gF B0) := by
  have hsD22 := hsD
  obtain ⟨hsDP23, hsDP24, hsDP25, hsDP26, hsDP27, hsDP28, hsDP29⟩ := hsDP
  obtain ⟨hsDR30, hsDR31⟩ := hsDR
  refine g_ofW (by decide) rfl (fun p e s m args below meth c Q hQ hx hb hr hlk hml hown hts hB hG hK hS ls hl => ?_)
  have hl : lv_has ls 4 [(0, .ref (a 22)), (1, .int (nI j))] := hl
  have hown : s.vm.findClass RD = some m.cls := hown
  have hfr0 : ∀ z, z < 22 ∨ 31 < z → w z = w z := fun _ _ => rfl
  refine lv_aload_n hx hb dD_riser_0 rfl (lv_at hl 0 rfl) ?_
  refine lv_iload_n hx hb dD_riser_1 rfl (lv_at hl 1 rfl) ?_
  refine g_ViR (i := 22) (As := [.int (nI j)]) (rest := []) (kD_isPart hA hsD22 (nI j)) calD_isPart cvD_isPart mlD_85 hx hb hml hown hts hB hG hK hS (by decide) hsD22 rfl ⟨by decide, by decide⟩ rfl hl.1 rfl (Nat.le_of_ble_eq_true rfl) dD_riser_2 ⟨by decide, by decide⟩ (fun H locs hG hS => ?_)
  refine lb_if_ne (tgt := 12) hx hb dD_riser_5 (by decide) (fun _ => ?_) (fun h9 => absurd (rng_part hj (by omega)) h9)
  refine lv_iconst (v := 0) hx hb dD_riser_12 (by decide) ?_
  refine lv_istore_n (lv' := [(2, .int 0), (0, .ref (a 22)), (1, .int (nI j))]) hx hb dD_riser_13 rfl hl (by decide) rfl (fun ls hl => ?_)
  refine lv_iload_n hx hb dD_riser_14 rfl (lv_at hl 0 rfl) ?_
  refine lv_if_ne (tgt := 54) hx hb dD_riser_15 (by decide) (fun h9 => absurd h9 (by decide)) (fun _ => ?_)
  refine lv_aload_n hx hb dD_riser_18 rfl (lv_at hl 1 rfl) ?_
  refine lv_iload_n hx hb dD_riser_19 rfl (lv_at hl 0 rfl) ?_
  refine lv_if_eq (tgt := 27) hx hb dD_riser_20 (by decide) (fun _ => ?_) (fun h9 => absurd h9 (by decide))
  refine lv_iload_n hx hb dD_riser_27 rfl (lv_at hl 2 rfl) ?_
  refine g_ViR (i := 22) (As := [.int (nI j)]) (rest := []) (kD_isTold hA hsD22 ⟨hsDP23, hsDP24, hsDP25, hsDP26, hsDP27, hsDP28, hsDP29⟩ j (by omega)) calD_isTold cvD_isTold mlD_101 hx hb hml hown hts hB hG hK hS (by decide) hsD22 rfl ⟨by decide, by decide⟩ rfl hl.1 rfl (Nat.le_of_ble_eq_true rfl) dD_riser_28 ⟨by decide, by decide⟩ (fun H locs hG hS => ?_)
  refine lb_if_eq (tgt := 50) hx hb dD_riser_31 (by decide) (fun _ => ?_) (fun h9 => absurd h9 ht)
  refine lv_iconst (v := 1) hx hb dD_riser_50 (by decide) ?_
  refine lv_goto (tgt := 55) hx hb dD_riser_51 (by decide) ?_
  refine lv_istore_n (lv' := [(3, .int 1), (2, .int 0), (0, .ref (a 22)), (1, .int (nI j))]) hx hb dD_riser_55 rfl hl (by decide) rfl (fun ls hl => ?_)
  refine lv_aload_n hx hb dD_riser_56 rfl (lv_at hl 2 rfl) ?_
  refine lv_iload_n hx hb dD_riser_57 rfl (lv_at hl 1 rfl) ?_
  refine lv_iload_n hx hb dD_riser_58 rfl (lv_at hl 0 rfl) ?_
  refine lv_iconst (v := 0) hx hb dD_riser_59 (by decide) ?_
  refine g_Vi (i := 22) (As := [.int 0, .int 1, .int 0]) (rest := []) (kD_throwing hA hsD22 0 1 0) calD_throwing cvD_throwing mlD_77 hx hb hml hown hts hB hG hK hS (by decide) hsD22 rfl ⟨by decide, by decide⟩ rfl hl.1 rfl (Nat.le_of_ble_eq_true rfl) dD_riser_60 ⟨by decide, by decide⟩ (fun r5 w6 H locs hp7 hG hS => ?_)
  obtain ⟨er9, h8, hfr10⟩ := hp7
  have h11 : w6 23 = .inl (k.2.2, 12, .inl rd) := (hfr10 23 (by omega)).trans hsDP23
  have h12 : w6 24 = .inl (k.1, 12, .inl ma) := (hfr10 24 (by omega)).trans hsDP24
  have h13 : w6 25 = .inl (k.1, 12, .inl mb) := (hfr10 25 (by omega)).trans hsDP25
  have h14 : w6 26 = .inl (k.1, 12, .inl mc) := (hfr10 26 (by omega)).trans hsDP26
  have h15 : w6 27 = .inl (k.1, 72, .inl co) := (hfr10 27 (by omega)).trans hsDP27
  have h16 : w6 28 = .inl (k.1, 12, .inl jn) := (hfr10 28 (by omega)).trans hsDP28
  have h17 : w6 29 = .inl (k.1, 12, .inl ro) := (hfr10 29 (by omega)).trans hsDP29
  have h18 : w6 30 = .inl (k.1, 8, .inl md) := (hfr10 30 (by omega)).trans hsDR30
  have h19 : w6 31 = .inl (k.1, 8, .inl mh) := (hfr10 31 (by omega)).trans hsDR31
  have hfr20 : ∀ z, z < 22 ∨ 31 < z → w6 z = w z := fun z hz => (hfr10 z (by omega)).trans (hfr0 z hz)
  rw [er9]
  refine lb_if_eq (tgt := 68) hx hb dD_riser_63 (by decide) (fun h9 => absurd (by decide) h9) (fun _ => ?_)
  refine lv_iconst (v := 0) hx hb dD_riser_66 (by decide) ?_
  exact g_iret hQ hx hb hr hlk hG hK hS (by decide) (by decide) ⟨by first | rfl | omega | (simp_all; done) | grind, h8, ⟨h11, h12, h13, h14, h15, h16, h17⟩, ⟨h18, h19⟩, hfr20⟩ dD_riser_67

abbrev rmD_riser_r : Room := { frames := 3, cells := 0, slots := 0, locals := 70 }
set_option maxRecDepth 100000 in
set_option maxHeartbeats 4000000 in
theorem kD_riser_r {l : Launch} {D : va_G} {k : ClassId × ClassId × ClassId} {a : Nat → Nat} {B0 : Nat} {w : Nat → va_E} (hA : gA B0 a) {th : Int32} {n : Nat} {nr : Nat} {nf : Nat} {bw : Int32} {bd : Int32} {nt : Nat} {rd : Nat → Int32} {ma : Nat → Int32} {mb : Nat → Int32} {mc : Nat → Int32} {co : Nat → Int32} {jn : Nat → Int32} {ro : Nat → Int32} {md : Nat → Int32} {mh : Nat → Int32} (hsD : sD k a w th n nr nf bw bd nt) (hsDP : sDP k a w rd ma mb mc co jn ro) (hsDR : sDR k a w md mh) (j : Nat) (hj : j < n) (hn : n ≤ 12) (hr8 : nr ≤ 8) (ht : 0 < mLo rd ma mb mc co j) (hf : rwF (mFitP rd ma mb mc co md mh j) nr (-1) < 0) : Met l yD_riser (tbw yD_riser cD_riser 4 (some .int)) rmD_riser_r (gPc D k a B0 w [.ref (a 22), .int (nI j)]) (va_Qi (fun rr9 w1 => rr9 = 0 ∧ (sD k a w1 2 n nr nf bw bd nt) ∧ (sDP k a w1 rd ma mb mc co jn ro) ∧ (sDR k a w1 md mh) ∧ ∀ z, z < 22 ∨ 31 < z → w1 z = w z) (gB D k a) (gF B0)) 0 0 (gF B0) := by
  have hsD22 := hsD
  obtain ⟨hsDP23, hsDP24, hsDP25, hsDP26, hsDP27, hsDP28, hsDP29⟩ := hsDP
  obtain ⟨hsDR30, hsDR31⟩ := hsDR
  refine g_ofW (by decide) rfl (fun p e s m args below meth c Q hQ hx hb hr hlk hml hown hts hB hG hK hS ls hl => ?_)
  have hl : lv_has ls 4 [(0, .ref (a 22)), (1, .int (nI j))] := hl
  have hown : s.vm.findClass RD = some m.cls := hown
  have hfr0 : ∀ z, z < 22 ∨ 31 < z → w z = w z := fun _ _ => rfl
  refine lv_aload_n hx hb dD_riser_0 rfl (lv_at hl 0 rfl) ?_
  refine lv_iload_n hx hb dD_riser_1 rfl (lv_at hl 1 rfl) ?_
  refine g_ViR (i := 22) (As := [.int (nI j)]) (rest := []) (kD_isPart hA hsD22 (nI j)) calD_isPart cvD_isPart mlD_85 hx hb hml hown hts hB hG hK hS (by decide) hsD22 rfl ⟨by decide, by decide⟩ rfl hl.1 rfl (Nat.le_of_ble_eq_true rfl) dD_riser_2 ⟨by decide, by decide⟩ (fun H locs hG hS => ?_)
  refine lb_if_ne (tgt := 12) hx hb dD_riser_5 (by decide) (fun _ => ?_) (fun h9 => absurd (rng_part hj (by omega)) h9)
  refine lv_iconst (v := 0) hx hb dD_riser_12 (by decide) ?_
  refine lv_istore_n (lv' := [(2, .int 0), (0, .ref (a 22)), (1, .int (nI j))]) hx hb dD_riser_13 rfl hl (by decide) rfl (fun ls hl => ?_)
  refine lv_iload_n hx hb dD_riser_14 rfl (lv_at hl 0 rfl) ?_
  refine lv_if_ne (tgt := 54) hx hb dD_riser_15 (by decide) (fun h9 => absurd h9 (by decide)) (fun _ => ?_)
  refine lv_aload_n hx hb dD_riser_18 rfl (lv_at hl 1 rfl) ?_
  refine lv_iload_n hx hb dD_riser_19 rfl (lv_at hl 0 rfl) ?_
  refine lv_if_eq (tgt := 27) hx hb dD_riser_20 (by decide) (fun _ => ?_) (fun h9 => absurd h9 (by decide))
  refine lv_iload_n hx hb dD_riser_27 rfl (lv_at hl 2 rfl) ?_
  refine g_ViR (i := 22) (As := [.int (nI j)]) (rest := []) (kD_isTold hA hsD22 ⟨hsDP23, hsDP24, hsDP25, hsDP26, hsDP27, hsDP28, hsDP29⟩ j (by omega)) calD_isTold cvD_isTold mlD_101 hx hb hml hown hts hB hG hK hS (by decide) hsD22 rfl ⟨by decide, by decide⟩ rfl hl.1 rfl (Nat.le_of_ble_eq_true rfl) dD_riser_28 ⟨by decide, by decide⟩ (fun H locs hG hS => ?_)
  refine lb_if_eq (tgt := 50) hx hb dD_riser_31 (by decide) (fun h9 => absurd ht h9) (fun _ => ?_)
  refine lv_aload_n hx hb dD_riser_34 rfl (lv_at hl 1 rfl) ?_
  refine lv_iload_n hx hb dD_riser_35 rfl (lv_at hl 0 rfl) ?_
  refine lv_if_eq (tgt := 43) hx hb dD_riser_36 (by decide) (fun _ => ?_) (fun h9 => absurd h9 (by decide))
  refine lv_iload_n hx hb dD_riser_43 rfl (lv_at hl 2 rfl) ?_
  refine g_ViR (i := 22) (As := [.int (nI j)]) (rest := []) (kD_rowFor hA hsD22 ⟨hsDP23, hsDP24, hsDP25, hsDP26, hsDP27, hsDP28, hsDP29⟩ ⟨hsDR30, hsDR31⟩ j (by omega) (by omega)) calD_rowFor cvD_rowFor mlD_115 hx hb hml hown hts hB hG hK hS (by decide) hsD22 rfl ⟨by decide, by decide⟩ rfl hl.1 rfl (Nat.le_of_ble_eq_true rfl) dD_riser_44 ⟨by decide, by decide⟩ (fun H locs hG hS => ?_)
  refine lv_if_ge (tgt := 54) hx hb dD_riser_47 (by decide) (fun c6 => (absurd hf (Int32.not_lt.mpr c6))) (fun c6 => ?_)
  refine lv_iconst (v := 1) hx hb dD_riser_50 (by decide) ?_
  refine lv_goto (tgt := 55) hx hb dD_riser_51 (by decide) ?_
  refine lv_istore_n (lv' := [(3, .int 1), (2, .int 0), (0, .ref (a 22)), (1, .int (nI j))]) hx hb dD_riser_55 rfl hl (by decide) rfl (fun ls hl => ?_)
  refine lv_aload_n hx hb dD_riser_56 rfl (lv_at hl 2 rfl) ?_
  refine lv_iload_n hx hb dD_riser_57 rfl (lv_at hl 1 rfl) ?_
  refine lv_iload_n hx hb dD_riser_58 rfl (lv_at hl 0 rfl) ?_
  refine lv_iconst (v := 0) hx hb dD_riser_59 (by decide) ?_
  refine g_Vi (i := 22) (As := [.int 0, .int 1, .int 0]) (rest := []) (kD_throwing hA hsD22 0 1 0) calD_throwing cvD_throwing mlD_77 hx hb hml hown hts hB hG hK hS (by decide) hsD22 rfl ⟨by decide, by decide⟩ rfl hl.1 rfl (Nat.le_of_ble_eq_true rfl) dD_riser_60 ⟨by decide, by decide⟩ (fun r7 w8 H locs hp9 hG hS => ?_)
  obtain ⟨er11, h10, hfr12⟩ := hp9
  have h13 : w8 23 = .inl (k.2.2, 12, .inl rd) := (hfr12 23 (by omega)).trans hsDP23
  have h14 : w8 24 = .inl (k.1, 12, .inl ma) := (hfr12 24 (by omega)).trans hsDP24
  have h15 : w8 25 = .inl (k.1, 12, .inl mb) := (hfr12 25 (by omega)).trans hsDP25
  have h16 : w8 26 = .inl (k.1, 12, .inl mc) := (hfr12 26 (by omega)).trans hsDP26
  have h17 : w8 27 = .inl (k.1, 72, .inl co) := (hfr12 27 (by omega)).trans hsDP27
  have h18 : w8 28 = .inl (k.1, 12, .inl jn) := (hfr12 28 (by omega)).trans hsDP28
  have h19 : w8 29 = .inl (k.1, 12, .inl ro) := (hfr12 29 (by omega)).trans hsDP29
  have h20 : w8 30 = .inl (k.1, 8, .inl md) := (hfr12 30 (by omega)).trans hsDR30
  have h21 : w8 31 = .inl (k.1, 8, .inl mh) := (hfr12 31 (by omega)).trans hsDR31
  have hfr22 : ∀ z, z < 22 ∨ 31 < z → w8 z = w z := fun z hz => (hfr12 z (by omega)).trans (hfr0 z hz)
  rw [er11]
  refine lb_if_eq (tgt := 68) hx hb dD_riser_63 (by decide) (fun h9 => absurd (by decide) h9) (fun _ => ?_)
  refine lv_iconst (v := 0) hx hb dD_riser_66 (by decide) ?_
  exact g_iret hQ hx hb hr hlk hG hK hS (by decide) (by decide) ⟨by first | rfl | omega | (simp_all; done) | grind, h10, ⟨h13, h14, h15, h16, h17, h18, h19⟩, ⟨h20, h21⟩, hfr22⟩ dD_riser_67

abbrev rmD_riser_k : Room := { frames := 3, cells := 0, slots := 0, locals := 70 }
set_option maxRecDepth 100000 in
set_option maxHeartbeats 4000000 in
theorem kD_riser_k {l : Launch} {D : va_G} {k : ClassId × ClassId × ClassId} {a : Nat → Nat} {B0 : Nat} {w : Nat → va_E} (hA : gA B0 a) {th : Int32} {n : Nat} {nr : Nat} {nf : Nat} {bw : Int32} {bd : Int32} {nt : Nat} {rd : Nat → Int32} {ma : Nat → Int32} {mb : Nat → Int32} {mc : Nat → Int32} {co : Nat → Int32} {jn : Nat → Int32} {ro : Nat → Int32} {md : Nat → Int32} {mh : Nat → Int32} (hsD : sD k a w th n nr nf bw bd nt) (hsDP : sDP k a w rd ma mb mc co jn ro) (hsDR : sDR k a w md mh) (j : Nat) (hj : j < n) (hn : n ≤ 12) (hr8 : nr ≤ 8) (ht : 0 < mLo rd ma mb mc co j) (hf : ¬ rwF (mFitP rd ma mb mc co md mh j) nr (-1) < 0) : Met l yD_riser (tbw yD_riser cD_riser 4 (some .int)) rmD_riser_k (gPc D k a B0 w [.ref (a 22), .int (nI j)]) (va_Qi (fun rr9 w1 => rr9 = (rwF (mFitP rd ma mb mc co md mh j) nr (-1)) ∧ (sD k a w1 0 n nr nf bw bd nt) ∧ (sDP k a w1 rd ma mb mc co jn (upd ro j (rwF (mFitP rd ma mb mc co md mh j) nr (-1)))) ∧ (sDR k a w1 md mh) ∧ ∀ z, z < 22 ∨ 31 < z → w1 z = w z) (gB D k a) (gF B0)) 0 0 (gF B0) := by
  have hsD22 := hsD
  obtain ⟨hsDP23, hsDP24, hsDP25, hsDP26, hsDP27, hsDP28, hsDP29⟩ := hsDP
  obtain ⟨hsDR30, hsDR31⟩ := hsDR
  refine g_ofW (by decide) rfl (fun p e s m args below meth c Q hQ hx hb hr hlk hml hown hts hB hG hK hS ls hl => ?_)
  have hl : lv_has ls 4 [(0, .ref (a 22)), (1, .int (nI j))] := hl
  have hown : s.vm.findClass RD = some m.cls := hown
  have hfr0 : ∀ z, z < 22 ∨ 31 < z → w z = w z := fun _ _ => rfl
  refine lv_aload_n hx hb dD_riser_0 rfl (lv_at hl 0 rfl) ?_
  refine lv_iload_n hx hb dD_riser_1 rfl (lv_at hl 1 rfl) ?_
  refine g_ViR (i := 22) (As := [.int (nI j)]) (rest := []) (kD_isPart hA hsD22 (nI j)) calD_isPart cvD_isPart mlD_85 hx hb hml hown hts hB hG hK hS (by decide) hsD22 rfl ⟨by decide, by decide⟩ rfl hl.1 rfl (Nat.le_of_ble_eq_true rfl) dD_riser_2 ⟨by decide, by decide⟩ (fun H locs hG hS => ?_)
  refine lb_if_ne (tgt := 12) hx hb dD_riser_5 (by decide) (fun _ => ?_) (fun h9 => absurd (rng_part hj (by omega)) h9)
  refine lv_iconst (v := 0) hx hb dD_riser_12 (by decide) ?_
  refine lv_istore_n (lv' := [(2, .int 0), (0, .ref (a 22)), (1, .int (nI j))]) hx hb dD_riser_13 rfl hl (by decide) rfl (fun ls hl => ?_)
  refine lv_iload_n hx hb dD_riser_14 rfl (lv_at hl 0 rfl) ?_
  refine lv_if_ne (tgt := 54) hx hb dD_riser_15 (by decide) (fun h9 => absurd h9 (by decide)) (fun _ => ?_)
  refine lv_aload_n hx hb dD_riser_18 rfl (lv_at hl 1 rfl) ?_
  refine lv_iload_n hx hb dD_riser_19 rfl (lv_at hl 0 rfl) ?_
  refine lv_if_eq (tgt := 27) hx hb dD_riser_20 (by decide) (fun _ => ?_) (fun h9 => absurd h9 (by decide))
  refine lv_iload_n hx hb dD_riser_27 rfl (lv_at hl 2 rfl) ?_
  refine g_ViR (i := 22) (As := [.int (nI j)]) (rest := []) (kD_isTold hA hsD22 ⟨hsDP23, hsDP24, hsDP25, hsDP26, hsDP27, hsDP28, hsDP29⟩ j (by omega)) calD_isTold cvD_isTold mlD_101 hx hb hml hown hts hB hG hK hS (by decide) hsD22 rfl ⟨by decide, by decide⟩ rfl hl.1 rfl (Nat.le_of_ble_eq_true rfl) dD_riser_28 ⟨by decide, by decide⟩ (fun H locs hG hS => ?_)
  refine lb_if_eq (tgt := 50) hx hb dD_riser_31 (by decide) (fun h9 => absurd ht h9) (fun _ => ?_)
  refine lv_aload_n hx hb dD_riser_34 rfl (lv_at hl 1 rfl) ?_
  refine lv_iload_n hx hb dD_riser_35 rfl (lv_at hl 0 rfl) ?_
  refine lv_if_eq (tgt := 43) hx hb dD_riser_36 (by decide) (fun _ => ?_) (fun h9 => absurd h9 (by decide))
  refine lv_iload_n hx hb dD_riser_43 rfl (lv_at hl 2 rfl) ?_
  refine g_ViR (i := 22) (As := [.int (nI j)]) (rest := []) (kD_rowFor hA hsD22 ⟨hsDP23, hsDP24, hsDP25, hsDP26, hsDP27, hsDP28, hsDP29⟩ ⟨hsDR30, hsDR31⟩ j (by omega) (by omega)) calD_rowFor cvD_rowFor mlD_115 hx hb hml hown hts hB hG hK hS (by decide) hsD22 rfl ⟨by decide, by decide⟩ rfl hl.1 rfl (Nat.le_of_ble_eq_true rfl) dD_riser_44 ⟨by decide, by decide⟩ (fun H locs hG hS => ?_)
  refine lv_if_ge (tgt := 54) hx hb dD_riser_47 (by decide) (fun c6 => ?_) (fun c6 => (absurd (Int32.not_lt.mp hf) c6))
  refine lv_iconst (v := 0) hx hb dD_riser_54 (by decide) ?_
  refine lv_istore_n (lv' := [(3, .int 0), (2, .int 0), (0, .ref (a 22)), (1, .int (nI j))]) hx hb dD_riser_55 rfl hl (by decide) rfl (fun ls hl => ?_)
  refine lv_aload_n hx hb dD_riser_56 rfl (lv_at hl 2 rfl) ?_
  refine lv_iload_n hx hb dD_riser_57 rfl (lv_at hl 1 rfl) ?_
  refine lv_iload_n hx hb dD_riser_58 rfl (lv_at hl 0 rfl) ?_
  refine lv_iconst (v := 0) hx hb dD_riser_59 (by decide) ?_
  refine g_Vi (i := 22) (As := [.int 0, .int 0, .int 0]) (rest := []) (kD_throwing hA hsD22 0 0 0) calD_throwing cvD_throwing mlD_77 hx hb hml hown hts hB hG hK hS (by decide) hsD22 rfl ⟨by decide, by decide⟩ rfl hl.1 rfl (Nat.le_of_ble_eq_true rfl) dD_riser_60 ⟨by decide, by decide⟩ (fun r7 w8 H locs hp9 hG hS => ?_)
  obtain ⟨er11, h10, hfr12⟩ := hp9
  have h13 : w8 23 = .inl (k.2.2, 12, .inl rd) := (hfr12 23 (by omega)).trans hsDP23
  have h14 : w8 24 = .inl (k.1, 12, .inl ma) := (hfr12 24 (by omega)).trans hsDP24
  have h15 : w8 25 = .inl (k.1, 12, .inl mb) := (hfr12 25 (by omega)).trans hsDP25
  have h16 : w8 26 = .inl (k.1, 12, .inl mc) := (hfr12 26 (by omega)).trans hsDP26
  have h17 : w8 27 = .inl (k.1, 72, .inl co) := (hfr12 27 (by omega)).trans hsDP27
  have h18 : w8 28 = .inl (k.1, 12, .inl jn) := (hfr12 28 (by omega)).trans hsDP28
  have h19 : w8 29 = .inl (k.1, 12, .inl ro) := (hfr12 29 (by omega)).trans hsDP29
  have h20 : w8 30 = .inl (k.1, 8, .inl md) := (hfr12 30 (by omega)).trans hsDR30
  have h21 : w8 31 = .inl (k.1, 8, .inl mh) := (hfr12 31 (by omega)).trans hsDR31
  have hfr22 : ∀ z, z < 22 ∨ 31 < z → w8 z = w z := fun z hz => (hfr12 z (by omega)).trans (hfr0 z hz)
  rw [er11]
  refine lb_if_eq (tgt := 68) hx hb dD_riser_63 (by decide) (fun _ => ?_) (fun h9 => absurd h9 (by decide))
  refine lv_aload_n hx hb dD_riser_68 rfl (lv_at hl 2 rfl) ?_
  refine g_get hx hb hts inD hown hK hG 22 (by decide) h10 rfl 8 (by decide) lkD_29 rfl dD_riser_69 ?_
  refine lv_iload_n hx hb dD_riser_72 rfl (lv_at hl 3 rfl) ?_
  refine lv_aload_n hx hb dD_riser_73 rfl (lv_at hl 2 rfl) ?_
  refine lv_iload_n hx hb dD_riser_74 rfl (lv_at hl 3 rfl) ?_
  refine g_ViR (i := 22) (As := [.int (nI j)]) (rest := [.int (nI j), .ref (a 29)]) (kD_rowFor hA h10 ⟨h13, h14, h15, h16, h17, h18, h19⟩ ⟨h20, h21⟩ j (by omega) (by omega)) calD_rowFor cvD_rowFor mlD_115 hx hb hml hown hts hB hG hK hS (by decide) h10 rfl ⟨by decide, by decide⟩ rfl hl.1 rfl (Nat.le_of_ble_eq_true rfl) dD_riser_75 ⟨by decide, by decide⟩ (fun H locs hG hS => ?_)
  refine g_iast hx hb hK hA hG hS 29 (by decide) h19 (j := j) (by omega) (by decide) dD_riser_78 (fun H locs hG hS => ?_)
  obtain ⟨w24, hw25⟩ : ∃ zz9, zz9 = va_up w8 29 (.inl (k.1, 12, .inl (upd ro j (rwF (mFitP rd ma mb mc co md mh j) nr (-1))))) := ⟨_, rfl⟩
  replace hG : gW D a w24 H := by rw [hw25]; exact hG
  have h26 : w24 22 = .inr (5, [.int (thrI 0 0 0), .int (nI n), .ref (a 23), .ref (a 24), .ref (a 25), .ref (a 26), .ref (a 27), .ref (a 28), .ref (a 29), .int (nI nr), .ref (a 30), .ref (a 31), .int (nI nf), .ref (a 32), .ref (a 33), .int bw, .int bd, .int (nI nt), .ref (a 34), .ref (a 35), .ref (a 36), .ref (a 37)]) := by rw [hw25]; exact h10
  have h27 : w24 23 = .inl (k.2.2, 12, .inl rd) := by rw [hw25]; exact h13
  have h28 : w24 24 = .inl (k.1, 12, .inl ma) := by rw [hw25]; exact h14
  have h29 : w24 25 = .inl (k.1, 12, .inl mb) := by rw [hw25]; exact h15
  have h30 : w24 26 = .inl (k.1, 12, .inl mc) := by rw [hw25]; exact h16
  have h31 : w24 27 = .inl (k.1, 72, .inl co) := by rw [hw25]; exact h17
  have h32 : w24 28 = .inl (k.1, 12, .inl jn) := by rw [hw25]; exact h18
  have h33 : w24 29 = .inl (k.1, 12, .inl (upd ro j (rwF (mFitP rd ma mb mc co md mh j) nr (-1)))) := by rw [hw25]; rfl
  have h34 : w24 30 = .inl (k.1, 8, .inl md) := by rw [hw25]; exact h20
  have h35 : w24 31 = .inl (k.1, 8, .inl mh) := by rw [hw25]; exact h21
  have hfr36 : ∀ z, z < 22 ∨ 31 < z → w24 z = w z := fun z hz => by rw [hw25]; exact (va_up_ne _ _ (by omega)).trans (hfr22 z hz)
  refine lv_aload_n hx hb dD_riser_79 rfl (lv_at hl 2 rfl) ?_
  refine g_get hx hb hts inD hown hK hG 22 (by decide) h26 rfl 8 (by decide) lkD_29 rfl dD_riser_80 ?_
  refine lv_iload_n hx hb dD_riser_83 rfl (lv_at hl 3 rfl) ?_
  refine g_iald hx hb hK hG 29 (by decide) h33 (j := j) (by omega) (by decide) dD_riser_84 ?_
  exact g_iret hQ hx hb hr hlk hG hK hS (by decide) (by decide) ⟨by exact pk_us, h26, ⟨h27, h28, h29, h30, h31, h32, h33⟩, ⟨h34, h35⟩, hfr36⟩ dD_riser_85

abbrev rmD_cutOff_p : Room := { frames := 2, cells := 0, slots := 0, locals := 43 }
set_option maxRecDepth 100000 in
set_option maxHeartbeats 4000000 in
theorem kD_cutOff_p {l : Launch} {D : va_G} {k : ClassId × ClassId × ClassId} {a : Nat → Nat} {B0 : Nat} {w : Nat → va_E} (hA : gA B0 a) {th : Int32} {n : Nat} {nr : Nat} {nf : Nat} {bw : Int32} {bd : Int32} {nt : Nat} {rd : Nat → Int32} {ma : Nat → Int32} {mb : Nat → Int32} {mc : Nat → Int32} {co : Nat → Int32} {jn : Nat → Int32} {ro : Nat → Int32} (hsD : sD k a w th n nr nf bw bd nt) (hsDP : sDP k a w rd ma mb mc co jn ro) (q : Int32) (hq : ¬ rngI q 0 (nI n - 1)) : Met l yD_cutOff (tbw yD_cutOff cD_cutOff 3 none) rmD_cutOff_p (gPc D k a B0 w [.ref (a 22), .int q]) (va_Qv (fun w1 => (sD k a w1 1 n nr nf bw bd nt) ∧ (sDP k a w1 rd ma mb mc co jn ro) ∧ ∀ z, z < 22 ∨ 29 < z → w1 z = w z) (gB D k a) (gF B0)) 0 0 (gF B0) := by
  have hsD22 := hsD
  obtain ⟨hsDP23, hsDP24, hsDP25, hsDP26, hsDP27, hsDP28, hsDP29⟩ := hsDP
  refine g_ofW (by decide) rfl (fun p e s m args below meth c Q hQ hx hb hr hlk hml hown hts hB hG hK hS ls hl => ?_)
  have hl : lv_has ls 3 [(0, .ref (a 22)), (1, .int q)] := hl
  have hown : s.vm.findClass RD = some m.cls := hown
  have hfr0 : ∀ z, z < 22 ∨ 29 < z → w z = w z := fun _ _ => rfl
  refine lv_aload_n hx hb dD_cutOff_0 rfl (lv_at hl 0 rfl) ?_
  refine lv_iload_n hx hb dD_cutOff_1 rfl (lv_at hl 1 rfl) ?_
  refine g_ViR (i := 22) (As := [.int q]) (rest := []) (kD_isPart hA hsD22 q) calD_isPart cvD_isPart mlD_85 hx hb hml hown hts hB hG hK hS (by decide) hsD22 rfl ⟨by decide, by decide⟩ rfl hl.1 rfl (Nat.le_of_ble_eq_true rfl) dD_cutOff_2 ⟨by decide, by decide⟩ (fun H locs hG hS => ?_)
  refine lb_if_ne (tgt := 12) hx hb dD_cutOff_5 (by decide) (fun h9 => absurd h9 hq) (fun _ => ?_)
  refine lv_iconst (v := 1) hx hb dD_cutOff_8 (by decide) ?_
  refine lv_goto (tgt := 13) hx hb dD_cutOff_9 (by decide) ?_
  refine lv_istore_n (lv' := [(2, .int 1), (0, .ref (a 22)), (1, .int q)]) hx hb dD_cutOff_13 rfl hl (by decide) rfl (fun ls hl => ?_)
  refine lv_aload_n hx hb dD_cutOff_14 rfl (lv_at hl 1 rfl) ?_
  refine lv_iload_n hx hb dD_cutOff_15 rfl (lv_at hl 0 rfl) ?_
  refine lv_iload_n hx hb dD_cutOff_16 rfl (lv_at hl 0 rfl) ?_
  refine lv_if_ne (tgt := 41) hx hb dD_cutOff_17 (by decide) (fun _ => ?_) (fun h9 => absurd h9 (by decide))
  refine lv_iconst (v := 0) hx hb dD_cutOff_41 (by decide) ?_
  refine lv_iconst (v := 0) hx hb dD_cutOff_42 (by decide) ?_
  refine g_Vi (i := 22) (As := [.int 1, .int 0, .int 0]) (rest := []) (kD_throwing hA hsD22 1 0 0) calD_throwing cvD_throwing mlD_77 hx hb hml hown hts hB hG hK hS (by decide) hsD22 rfl ⟨by decide, by decide⟩ rfl hl.1 rfl (Nat.le_of_ble_eq_true rfl) dD_cutOff_43 ⟨by decide, by decide⟩ (fun r3 w4 H locs hp5 hG hS => ?_)
  obtain ⟨er7, h6, hfr8⟩ := hp5
  have h9 : w4 23 = .inl (k.2.2, 12, .inl rd) := (hfr8 23 (by omega)).trans hsDP23
  have h10 : w4 24 = .inl (k.1, 12, .inl ma) := (hfr8 24 (by omega)).trans hsDP24
  have h11 : w4 25 = .inl (k.1, 12, .inl mb) := (hfr8 25 (by omega)).trans hsDP25
  have h12 : w4 26 = .inl (k.1, 12, .inl mc) := (hfr8 26 (by omega)).trans hsDP26
  have h13 : w4 27 = .inl (k.1, 72, .inl co) := (hfr8 27 (by omega)).trans hsDP27
  have h14 : w4 28 = .inl (k.1, 12, .inl jn) := (hfr8 28 (by omega)).trans hsDP28
  have h15 : w4 29 = .inl (k.1, 12, .inl ro) := (hfr8 29 (by omega)).trans hsDP29
  have hfr16 : ∀ z, z < 22 ∨ 29 < z → w4 z = w z := fun z hz => (hfr8 z (by omega)).trans (hfr0 z hz)
  rw [er7]
  refine lb_if_eq (tgt := 50) hx hb dD_cutOff_46 (by decide) (fun h9 => absurd (by decide) h9) (fun _ => ?_)
  exact g_vret hQ hx hb hr hlk hG hK hS (by decide) (by decide) ⟨h6, ⟨h9, h10, h11, h12, h13, h14, h15⟩, hfr16⟩ dD_cutOff_49

abbrev rmD_cutOff_r : Room := { frames := 2, cells := 0, slots := 0, locals := 43 }
set_option maxRecDepth 100000 in
set_option maxHeartbeats 4000000 in
theorem kD_cutOff_r {l : Launch} {D : va_G} {k : ClassId × ClassId × ClassId} {a : Nat → Nat} {B0 : Nat} {w : Nat → va_E} (hA : gA B0 a) {th : Int32} {n : Nat} {nr : Nat} {nf : Nat} {bw : Int32} {bd : Int32} {nt : Nat} {rd : Nat → Int32} {ma : Nat → Int32} {mb : Nat → Int32} {mc : Nat → Int32} {co : Nat → Int32} {jn : Nat → Int32} {ro : Nat → Int32} (hsD : sD k a w th n nr nf bw bd nt) (hsDP : sDP k a w rd ma mb mc co jn ro) (j : Nat) (hj : j < n) (hn : n ≤ 12) (hr9 : ro j < 0) : Met l yD_cutOff (tbw yD_cutOff cD_cutOff 3 none) rmD_cutOff_r (gPc D k a B0 w [.ref (a 22), .int (nI j)]) (va_Qv (fun w1 => (sD k a w1 2 n nr nf bw bd nt) ∧ (sDP k a w1 rd ma mb mc co jn ro) ∧ ∀ z, z < 22 ∨ 29 < z → w1 z = w z) (gB D k a) (gF B0)) 0 0 (gF B0) := by
  have hsD22 := hsD
  obtain ⟨hsDP23, hsDP24, hsDP25, hsDP26, hsDP27, hsDP28, hsDP29⟩ := hsDP
  refine g_ofW (by decide) rfl (fun p e s m args below meth c Q hQ hx hb hr hlk hml hown hts hB hG hK hS ls hl => ?_)
  have hl : lv_has ls 3 [(0, .ref (a 22)), (1, .int (nI j))] := hl
  have hown : s.vm.findClass RD = some m.cls := hown
  have hfr0 : ∀ z, z < 22 ∨ 29 < z → w z = w z := fun _ _ => rfl
  refine lv_aload_n hx hb dD_cutOff_0 rfl (lv_at hl 0 rfl) ?_
  refine lv_iload_n hx hb dD_cutOff_1 rfl (lv_at hl 1 rfl) ?_
  refine g_ViR (i := 22) (As := [.int (nI j)]) (rest := []) (kD_isPart hA hsD22 (nI j)) calD_isPart cvD_isPart mlD_85 hx hb hml hown hts hB hG hK hS (by decide) hsD22 rfl ⟨by decide, by decide⟩ rfl hl.1 rfl (Nat.le_of_ble_eq_true rfl) dD_cutOff_2 ⟨by decide, by decide⟩ (fun H locs hG hS => ?_)
  refine lb_if_ne (tgt := 12) hx hb dD_cutOff_5 (by decide) (fun _ => ?_) (fun h9 => absurd (rng_part hj (by omega)) h9)
  refine lv_iconst (v := 0) hx hb dD_cutOff_12 (by decide) ?_
  refine lv_istore_n (lv' := [(2, .int 0), (0, .ref (a 22)), (1, .int (nI j))]) hx hb dD_cutOff_13 rfl hl (by decide) rfl (fun ls hl => ?_)
  refine lv_aload_n hx hb dD_cutOff_14 rfl (lv_at hl 1 rfl) ?_
  refine lv_iload_n hx hb dD_cutOff_15 rfl (lv_at hl 0 rfl) ?_
  refine lv_iload_n hx hb dD_cutOff_16 rfl (lv_at hl 0 rfl) ?_
  refine lv_if_ne (tgt := 41) hx hb dD_cutOff_17 (by decide) (fun h9 => absurd h9 (by decide)) (fun _ => ?_)
  refine lv_aload_n hx hb dD_cutOff_20 rfl (lv_at hl 1 rfl) ?_
  refine g_get hx hb hts inD hown hK hG 22 (by decide) hsD22 rfl 8 (by decide) lkD_29 rfl dD_cutOff_21 ?_
  refine lv_iload_n hx hb dD_cutOff_24 rfl (lv_at hl 0 rfl) ?_
  refine lv_if_eq (tgt := 32) hx hb dD_cutOff_25 (by decide) (fun _ => ?_) (fun h9 => absurd h9 (by decide))
  refine lv_iload_n hx hb dD_cutOff_32 rfl (lv_at hl 2 rfl) ?_
  refine g_iald hx hb hK hG 29 (by decide) hsDP29 (j := j) (by omega) (by decide) dD_cutOff_33 ?_
  refine lv_if_ge (tgt := 41) hx hb dD_cutOff_34 (by decide) (fun c4 => (absurd hr9 (Int32.not_lt.mpr c4))) (fun c4 => ?_)
  refine lv_iconst (v := 1) hx hb dD_cutOff_37 (by decide) ?_
  refine lv_goto (tgt := 42) hx hb dD_cutOff_38 (by decide) ?_
  refine lv_iconst (v := 0) hx hb dD_cutOff_42 (by decide) ?_
  refine g_Vi (i := 22) (As := [.int 0, .int 1, .int 0]) (rest := []) (kD_throwing hA hsD22 0 1 0) calD_throwing cvD_throwing mlD_77 hx hb hml hown hts hB hG hK hS (by decide) hsD22 rfl ⟨by decide, by decide⟩ rfl hl.1 rfl (Nat.le_of_ble_eq_true rfl) dD_cutOff_43 ⟨by decide, by decide⟩ (fun r5 w6 H locs hp7 hG hS => ?_)
  obtain ⟨er9, h8, hfr10⟩ := hp7
  have h11 : w6 23 = .inl (k.2.2, 12, .inl rd) := (hfr10 23 (by omega)).trans hsDP23
  have h12 : w6 24 = .inl (k.1, 12, .inl ma) := (hfr10 24 (by omega)).trans hsDP24
  have h13 : w6 25 = .inl (k.1, 12, .inl mb) := (hfr10 25 (by omega)).trans hsDP25
  have h14 : w6 26 = .inl (k.1, 12, .inl mc) := (hfr10 26 (by omega)).trans hsDP26
  have h15 : w6 27 = .inl (k.1, 72, .inl co) := (hfr10 27 (by omega)).trans hsDP27
  have h16 : w6 28 = .inl (k.1, 12, .inl jn) := (hfr10 28 (by omega)).trans hsDP28
  have h17 : w6 29 = .inl (k.1, 12, .inl ro) := (hfr10 29 (by omega)).trans hsDP29
  have hfr18 : ∀ z, z < 22 ∨ 29 < z → w6 z = w z := fun z hz => (hfr10 z (by omega)).trans (hfr0 z hz)
  rw [er9]
  refine lb_if_eq (tgt := 50) hx hb dD_cutOff_46 (by decide) (fun h9 => absurd (by decide) h9) (fun _ => ?_)
  exact g_vret hQ hx hb hr hlk hG hK hS (by decide) (by decide) ⟨h8, ⟨h11, h12, h13, h14, h15, h16, h17⟩, hfr18⟩ dD_cutOff_49

abbrev rmD_cutOff_k : Room := { frames := 2, cells := 0, slots := 0, locals := 43 }
set_option maxRecDepth 100000 in
set_option maxHeartbeats 4000000 in
theorem kD_cutOff_k {l : Launch} {D : va_G} {k : ClassId × ClassId × ClassId} {a : Nat → Nat} {B0 : Nat} {w : Nat → va_E} (hA : gA B0 a) {th : Int32} {n : Nat} {nr : Nat} {nf : Nat} {bw : Int32} {bd : Int32} {nt : Nat} {rd : Nat → Int32} {ma : Nat → Int32} {mb : Nat → Int32} {mc : Nat → Int32} {co : Nat → Int32} {jn : Nat → Int32} {ro : Nat → Int32} (hsD : sD k a w th n nr nf bw bd nt) (hsDP : sDP k a w rd ma mb mc co jn ro) (j : Nat) (hj : j < n) (hn : n ≤ 12) (hr9 : ¬ ro j < 0) : Met l yD_cutOff (tbw yD_cutOff cD_cutOff 3 none) rmD_cutOff_k (gPc D k a B0 w [.ref (a 22), .int (nI j)]) (va_Qv (fun w1 => (sD k a w1 0 n nr nf bw bd nt) ∧ (sDP k a w1 rd ma mb mc co jn (upd ro j (-1))) ∧ ∀ z, z < 22 ∨ 29 < z → w1 z = w z) (gB D k a) (gF B0)) 0 0 (gF B0) := by
  have hsD22 := hsD
  obtain ⟨hsDP23, hsDP24, hsDP25, hsDP26, hsDP27, hsDP28, hsDP29⟩ := hsDP
  refine g_ofW (by decide) rfl (fun p e s m args below meth c Q hQ hx hb hr hlk hml hown hts hB hG hK hS ls hl => ?_)
  have hl : lv_has ls 3 [(0, .ref (a 22)), (1, .int (nI j))] := hl
  have hown : s.vm.findClass RD = some m.cls := hown
  have hfr0 : ∀ z, z < 22 ∨ 29 < z → w z = w z := fun _ _ => rfl
  refine lv_aload_n hx hb dD_cutOff_0 rfl (lv_at hl 0 rfl) ?_
  refine lv_iload_n hx hb dD_cutOff_1 rfl (lv_at hl 1 rfl) ?_
  refine g_ViR (i := 22) (As := [.int (nI j)]) (rest := []) (kD_isPart hA hsD22 (nI j)) calD_isPart cvD_isPart mlD_85 hx hb hml hown hts hB hG hK hS (by decide) hsD22 rfl ⟨by decide, by decide⟩ rfl hl.1 rfl (Nat.le_of_ble_eq_true rfl) dD_cutOff_2 ⟨by decide, by decide⟩ (fun H locs hG hS => ?_)
  refine lb_if_ne (tgt := 12) hx hb dD_cutOff_5 (by decide) (fun _ => ?_) (fun h9 => absurd (rng_part hj (by omega)) h9)
  refine lv_iconst (v := 0) hx hb dD_cutOff_12 (by decide) ?_
  refine lv_istore_n (lv' := [(2, .int 0), (0, .ref (a 22)), (1, .int (nI j))]) hx hb dD_cutOff_13 rfl hl (by decide) rfl (fun ls hl => ?_)
  refine lv_aload_n hx hb dD_cutOff_14 rfl (lv_at hl 1 rfl) ?_
  refine lv_iload_n hx hb dD_cutOff_15 rfl (lv_at hl 0 rfl) ?_
  refine lv_iload_n hx hb dD_cutOff_16 rfl (lv_at hl 0 rfl) ?_
  refine lv_if_ne (tgt := 41) hx hb dD_cutOff_17 (by decide) (fun h9 => absurd h9 (by decide)) (fun _ => ?_)
  refine lv_aload_n hx hb dD_cutOff_20 rfl (lv_at hl 1 rfl) ?_
  refine g_get hx hb hts inD hown hK hG 22 (by decide) hsD22 rfl 8 (by decide) lkD_29 rfl dD_cutOff_21 ?_
  refine lv_iload_n hx hb dD_cutOff_24 rfl (lv_at hl 0 rfl) ?_
  refine lv_if_eq (tgt := 32) hx hb dD_cutOff_25 (by decide) (fun _ => ?_) (fun h9 => absurd h9 (by decide))
  refine lv_iload_n hx hb dD_cutOff_32 rfl (lv_at hl 2 rfl) ?_
  refine g_iald hx hb hK hG 29 (by decide) hsDP29 (j := j) (by omega) (by decide) dD_cutOff_33 ?_
  refine lv_if_ge (tgt := 41) hx hb dD_cutOff_34 (by decide) (fun c4 => ?_) (fun c4 => (absurd (Int32.not_lt.mp hr9) c4))
  refine lv_iconst (v := 0) hx hb dD_cutOff_41 (by decide) ?_
  refine lv_iconst (v := 0) hx hb dD_cutOff_42 (by decide) ?_
  refine g_Vi (i := 22) (As := [.int 0, .int 0, .int 0]) (rest := []) (kD_throwing hA hsD22 0 0 0) calD_throwing cvD_throwing mlD_77 hx hb hml hown hts hB hG hK hS (by decide) hsD22 rfl ⟨by decide, by decide⟩ rfl hl.1 rfl (Nat.le_of_ble_eq_true rfl) dD_cutOff_43 ⟨by decide, by decide⟩ (fun r5 w6 H locs hp7 hG hS => ?_)
  obtain ⟨er9, h8, hfr10⟩ := hp7
  have h11 : w6 23 = .inl (k.2.2, 12, .inl rd) := (hfr10 23 (by omega)).trans hsDP23
  have h12 : w6 24 = .inl (k.1, 12, .inl ma) := (hfr10 24 (by omega)).trans hsDP24
  have h13 : w6 25 = .inl (k.1, 12, .inl mb) := (hfr10 25 (by omega)).trans hsDP25
  have h14 : w6 26 = .inl (k.1, 12, .inl mc) := (hfr10 26 (by omega)).trans hsDP26
  have h15 : w6 27 = .inl (k.1, 72, .inl co) := (hfr10 27 (by omega)).trans hsDP27
  have h16 : w6 28 = .inl (k.1, 12, .inl jn) := (hfr10 28 (by omega)).trans hsDP28
  have h17 : w6 29 = .inl (k.1, 12, .inl ro) := (hfr10 29 (by omega)).trans hsDP29
  have hfr18 : ∀ z, z < 22 ∨ 29 < z → w6 z = w z := fun z hz => (hfr10 z (by omega)).trans (hfr0 z hz)
  rw [er9]
  refine lb_if_eq (tgt := 50) hx hb dD_cutOff_46 (by decide) (fun _ => ?_) (fun h9 => absurd h9 (by decide))
  refine lv_aload_n hx hb dD_cutOff_50 rfl (lv_at hl 1 rfl) ?_
  refine g_get hx hb hts inD hown hK hG 22 (by decide) h8 rfl 8 (by decide) lkD_29 rfl dD_cutOff_51 ?_
  refine lv_iload_n hx hb dD_cutOff_54 rfl (lv_at hl 2 rfl) ?_
  refine lv_iconst (v := (-1)) hx hb dD_cutOff_55 (by decide) ?_
  refine g_iast hx hb hK hA hG hS 29 (by decide) h17 (j := j) (by omega) (by decide) dD_cutOff_56 (fun H locs hG hS => ?_)
  obtain ⟨w20, hw21⟩ : ∃ zz9, zz9 = va_up w6 29 (.inl (k.1, 12, .inl (upd ro j (-1)))) := ⟨_, rfl⟩
  replace hG : gW D a w20 H := by rw [hw21]; exact hG
  have h22 : w20 22 = .inr (5, [.int (thrI 0 0 0), .int (nI n), .ref (a 23), .ref (a 24), .ref (a 25), .ref (a 26), .ref (a 27), .ref (a 28), .ref (a 29), .int (nI nr), .ref (a 30), .ref (a 31), .int (nI nf), .ref (a 32), .ref (a 33), .int bw, .int bd, .int (nI nt), .ref (a 34), .ref (a 35), .ref (a 36), .ref (a 37)]) := by rw [hw21]; exact h8
  have h23 : w20 23 = .inl (k.2.2, 12, .inl rd) := by rw [hw21]; exact h11
  have h24 : w20 24 = .inl (k.1, 12, .inl ma) := by rw [hw21]; exact h12
  have h25 : w20 25 = .inl (k.1, 12, .inl mb) := by rw [hw21]; exact h13
  have h26 : w20 26 = .inl (k.1, 12, .inl mc) := by rw [hw21]; exact h14
  have h27 : w20 27 = .inl (k.1, 72, .inl co) := by rw [hw21]; exact h15
  have h28 : w20 28 = .inl (k.1, 12, .inl jn) := by rw [hw21]; exact h16
  have h29 : w20 29 = .inl (k.1, 12, .inl (upd ro j (-1))) := by rw [hw21]; rfl
  have hfr30 : ∀ z, z < 22 ∨ 29 < z → w20 z = w z := fun z hz => by rw [hw21]; exact (va_up_ne _ _ (by omega)).trans (hfr18 z hz)
  exact g_vret hQ hx hb hr hlk hG hK hS (by decide) (by decide) ⟨h22, ⟨h23, h24, h25, h26, h27, h28, h29⟩, hfr30⟩ dD_cutOff_57

abbrev rmD_flowRow_k : Room := { frames := 1, cells := 0, slots := 0, locals := 23 }
set_option maxRecDepth 100000 in
set_option maxHeartbeats 4000000 in
theorem kD_flowRow_k {l : Launch} {D : va_G} {k : ClassId × ClassId × ClassId} {a : Nat → Nat} {B0 : Nat} {w : Nat → va_E} (hA : gA B0 a) {th : Int32} {n : Nat} {nr : Nat} {nf : Nat} {bw : Int32} {bd : Int32} {nt : Nat} {mo : Nat → Int32} {mf : Nat → Int32} (hsD : sD k a w th n nr nf bw bd nt) (hsDF : sDF k a w mo mf) (q : Int32) (f : Int32) (hn : nf < 8) (h1 : rngI q 0 10000) (h2 : rngI f 0 1000000) (hm : nf = 0 ∨ (¬ q ≤ mo (nf - 1) ∧ ¬ f < mf (nf - 1))) : Met l yD_flowRow (tbw yD_flowRow cD_flowRow 5 (some .int)) rmD_flowRow_k (gPc D k a B0 w [.ref (a 22), .int q, .int f]) (va_Qi (fun rr9 w1 => rr9 = (nI (nf + 1)) ∧ (sD k a w1 0 n nr (nf + 1) bw bd nt) ∧ (sDF k a w1 (upd mo nf q) (upd mf nf f)) ∧ ∀ z, (z < 32 ∨ 33 < z) ∧ z ≠ 22 → w1 z = w z) (gB D k a) (gF B0)) 0 0 (gF B0) := by
  have hsD22 := hsD
  obtain ⟨hsDF32, hsDF33⟩ := hsDF
  refine g_ofW (by decide) rfl (fun p e s m args below meth c Q hQ hx hb hr hlk hml hown hts hB hG hK hS ls hl => ?_)
  have hl : lv_has ls 5 [(0, .ref (a 22)), (1, .int q), (2, .int f)] := hl
  have hown : s.vm.findClass RD = some m.cls := hown
  have hfr0 : ∀ z, (z < 32 ∨ 33 < z) ∧ z ≠ 22 → w z = w z := fun _ _ => rfl
  refine lv_aload_n hx hb dD_flowRow_0 rfl (lv_at hl 0 rfl) ?_
  refine g_get hx hb hts inD hown hK hG 22 (by decide) hsD22 rfl 12 (by decide) lkD_122 rfl dD_flowRow_1 ?_
  refine ln_if_le (x := nf) (tgt := 16) hx hb dD_flowRow_4 (by decide) (by omega) (fun c1 => ?_) (fun c1 => ?_)
  · refine lv_iconst (v := 0) hx hb dD_flowRow_16 (by decide) ?_
    refine lv_istore_n (lv' := [(3, .int 0), (0, .ref (a 22)), (1, .int q), (2, .int f)]) hx hb dD_flowRow_17 rfl hl (by decide) rfl (fun ls hl => ?_)
    refine lv_aload_n hx hb dD_flowRow_18 rfl (lv_at hl 1 rfl) ?_
    refine g_get hx hb hts inD hown hK hG 22 (by decide) hsD22 rfl 12 (by decide) lkD_122 rfl dD_flowRow_19 ?_
    refine ln_if_le (x := nf) (tgt := 49) hx hb dD_flowRow_22 (by decide) (by omega) (fun c2 => ?_) (fun c2 => absurd c2 (by omega))
    refine lv_iconst (v := 0) hx hb dD_flowRow_49 (by decide) ?_
    refine lv_istore (lv' := [(4, .int 0), (3, .int 0), (0, .ref (a 22)), (1, .int q), (2, .int f)]) hx hb dD_flowRow_50 hl (by decide) rfl (fun ls hl => ?_)
    refine lv_aload_n hx hb dD_flowRow_52 rfl (lv_at hl 2 rfl) ?_
    refine lv_aload_n hx hb dD_flowRow_53 rfl (lv_at hl 2 rfl) ?_
    refine g_get hx hb hts inD hown hK hG 22 (by decide) hsD22 rfl 12 (by decide) lkD_122 rfl dD_flowRow_54 ?_
    refine lv_bipush (v := 8) hx hb dD_flowRow_57 (by decide) ?_
    refine ln_icmp_ne (x := nf) (y := 8) (tgt := 66) hx hb dD_flowRow_59 (by decide) (by omega) (by decide) (fun c3 => ?_) (fun c3 => absurd c3 (by omega))
    refine lv_iconst (v := 0) hx hb dD_flowRow_66 (by decide) ?_
    refine lv_iload_n hx hb dD_flowRow_67 rfl (lv_at hl 3 rfl) ?_
    refine lv_iconst (v := 0) hx hb dD_flowRow_68 (by decide) ?_
    refine lv_sipush (v := 10000) hx hb dD_flowRow_69 (by decide) ?_
    refine g_SiR (As := [.int q, .int 0, .int 10000]) (rest := [.int 0, .ref (a 22)]) (kD_in hA q 0 10000) calD_in cvD_in mlD_66 hx hb hml hown hts hB hG hK hS ⟨by decide, by decide⟩ rfl hl.1 rfl (Nat.le_of_ble_eq_true rfl) dD_flowRow_72 ⟨by decide, by decide⟩ (fun H locs hG hS => ?_)
    refine lb_if_eq (tgt := 88) hx hb dD_flowRow_75 (by decide) (fun h9 => absurd h1 h9) (fun _ => ?_)
    refine lv_iload_n hx hb dD_flowRow_78 rfl (lv_at hl 4 rfl) ?_
    refine lv_iconst (v := 0) hx hb dD_flowRow_79 (by decide) ?_
    refine lv_ldc (v := 1000000) hx hb hown (hts _ kcD_125) dD_flowRow_80 ?_
    refine g_SiR (As := [.int f, .int 0, .int 1000000]) (rest := [.int 0, .ref (a 22)]) (kD_in hA f 0 1000000) calD_in cvD_in mlD_66 hx hb hml hown hts hB hG hK hS ⟨by decide, by decide⟩ rfl hl.1 rfl (Nat.le_of_ble_eq_true rfl) dD_flowRow_82 ⟨by decide, by decide⟩ (fun H locs hG hS => ?_)
    refine lb_if_ne (tgt := 92) hx hb dD_flowRow_85 (by decide) (fun _ => ?_) (fun h9 => absurd h2 h9)
    refine lv_iconst (v := 0) hx hb dD_flowRow_92 (by decide) ?_
    refine lv_iload hx hb dD_flowRow_93 (lv_at hl 0 rfl) ?_
    refine g_Vi (i := 22) (As := [.int 0, .int 0, .int 0]) (rest := []) (kD_throwing hA hsD22 0 0 0) calD_throwing cvD_throwing mlD_77 hx hb hml hown hts hB hG hK hS (by decide) hsD22 rfl ⟨by decide, by decide⟩ rfl hl.1 rfl (Nat.le_of_ble_eq_true rfl) dD_flowRow_95 ⟨by decide, by decide⟩ (fun r6 w7 H locs hp8 hG hS => ?_)
    obtain ⟨er10, h9, hfr11⟩ := hp8
    have h12 : w7 32 = .inl (k.1, 8, .inl mo) := (hfr11 32 (by omega)).trans hsDF32
    have h13 : w7 33 = .inl (k.1, 8, .inl mf) := (hfr11 33 (by omega)).trans hsDF33
    have hfr14 : ∀ z, (z < 32 ∨ 33 < z) ∧ z ≠ 22 → w7 z = w z := fun z hz => (hfr11 z (by omega)).trans (hfr0 z hz)
    rw [er10]
    refine lb_if_eq (tgt := 103) hx hb dD_flowRow_98 (by decide) (fun _ => ?_) (fun h9 => absurd h9 (by decide))
    refine lv_aload_n hx hb dD_flowRow_103 rfl (lv_at hl 2 rfl) ?_
    refine g_get hx hb hts inD hown hK hG 22 (by decide) h9 rfl 13 (by decide) lkD_38 rfl dD_flowRow_104 ?_
    refine lv_aload_n hx hb dD_flowRow_107 rfl (lv_at hl 2 rfl) ?_
    refine g_get hx hb hts inD hown hK hG 22 (by decide) h9 rfl 12 (by decide) lkD_122 rfl dD_flowRow_108 ?_
    refine lv_iload_n hx hb dD_flowRow_111 rfl (lv_at hl 3 rfl) ?_
    refine g_iast hx hb hK hA hG hS 32 (by decide) h12 (j := nf) (by omega) (by decide) dD_flowRow_112 (fun H locs hG hS => ?_)
    obtain ⟨w16, hw17⟩ : ∃ zz9, zz9 = va_up w7 32 (.inl (k.1, 8, .inl (upd mo nf q))) := ⟨_, rfl⟩
    replace hG : gW D a w16 H := by rw [hw17]; exact hG
    have h18 : w16 22 = .inr (5, [.int (thrI 0 0 0), .int (nI n), .ref (a 23), .ref (a 24), .ref (a 25), .ref (a 26), .ref (a 27), .ref (a 28), .ref (a 29), .int (nI nr), .ref (a 30), .ref (a 31), .int (nI nf), .ref (a 32), .ref (a 33), .int bw, .int bd, .int (nI nt), .ref (a 34), .ref (a 35), .ref (a 36), .ref (a 37)]) := by rw [hw17]; exact h9
    have h19 : w16 32 = .inl (k.1, 8, .inl (upd mo nf q)) := by rw [hw17]; rfl
    have h20 : w16 33 = .inl (k.1, 8, .inl mf) := by rw [hw17]; exact h13
    have hfr21 : ∀ z, (z < 32 ∨ 33 < z) ∧ z ≠ 22 → w16 z = w z := fun z hz => by rw [hw17]; exact (va_up_ne _ _ (by omega)).trans (hfr14 z hz)
    refine lv_aload_n hx hb dD_flowRow_113 rfl (lv_at hl 2 rfl) ?_
    refine g_get hx hb hts inD hown hK hG 22 (by decide) h18 rfl 14 (by decide) lkD_41 rfl dD_flowRow_114 ?_
    refine lv_aload_n hx hb dD_flowRow_117 rfl (lv_at hl 2 rfl) ?_
    refine g_get hx hb hts inD hown hK hG 22 (by decide) h18 rfl 12 (by decide) lkD_122 rfl dD_flowRow_118 ?_
    refine lv_iload_n hx hb dD_flowRow_121 rfl (lv_at hl 4 rfl) ?_
    refine g_iast hx hb hK hA hG hS 33 (by decide) h20 (j := nf) (by omega) (by decide) dD_flowRow_122 (fun H locs hG hS => ?_)
    obtain ⟨w22, hw23⟩ : ∃ zz9, zz9 = va_up w16 33 (.inl (k.1, 8, .inl (upd mf nf f))) := ⟨_, rfl⟩
    replace hG : gW D a w22 H := by rw [hw23]; exact hG
    have h24 : w22 22 = .inr (5, [.int (thrI 0 0 0), .int (nI n), .ref (a 23), .ref (a 24), .ref (a 25), .ref (a 26), .ref (a 27), .ref (a 28), .ref (a 29), .int (nI nr), .ref (a 30), .ref (a 31), .int (nI nf), .ref (a 32), .ref (a 33), .int bw, .int bd, .int (nI nt), .ref (a 34), .ref (a 35), .ref (a 36), .ref (a 37)]) := by rw [hw23]; exact h18
    have h25 : w22 32 = .inl (k.1, 8, .inl (upd mo nf q)) := by rw [hw23]; exact h19
    have h26 : w22 33 = .inl (k.1, 8, .inl (upd mf nf f)) := by rw [hw23]; rfl
    have hfr27 : ∀ z, (z < 32 ∨ 33 < z) ∧ z ≠ 22 → w22 z = w z := fun z hz => by rw [hw23]; exact (va_up_ne _ _ (by omega)).trans (hfr21 z hz)
    refine lv_aload_n hx hb dD_flowRow_123 rfl (lv_at hl 2 rfl) ?_
    refine lv_dup hx hb dD_flowRow_124 rfl ?_
    refine g_get hx hb hts inD hown hK hG 22 (by decide) h24 rfl 12 (by decide) lkD_122 rfl dD_flowRow_125 ?_
    refine lv_iconst (v := 1) hx hb dD_flowRow_128 (by decide) ?_
    refine ln_iadd (x := nf) (y := 1) hx hb dD_flowRow_129 ?_
    refine g_put hx hb hts inD tyD tokD nokD hown hK hA hG hS 22 (by decide) h24 rfl 12 (by decide) lkD_122 rfl (ty := .int) (by decide +kernel) rfl rfl (Nat.le_of_ble_eq_true rfl) dD_flowRow_130 (fun H locs hG hS => ?_)
    obtain ⟨w28, hw29⟩ : ∃ zz9, zz9 = va_up w22 22 (.inr (5, [.int (thrI 0 0 0), .int (nI n), .ref (a 23), .ref (a 24), .ref (a 25), .ref (a 26), .ref (a 27), .ref (a 28), .ref (a 29), .int (nI nr), .ref (a 30), .ref (a 31), .int (nI (nf + 1)), .ref (a 32), .ref (a 33), .int bw, .int bd, .int (nI nt), .ref (a 34), .ref (a 35), .ref (a 36), .ref (a 37)])) := ⟨_, rfl⟩
    replace hG : gW D a w28 H := by rw [hw29]; exact hG
    have h30 : w28 22 = .inr (5, [.int (thrI 0 0 0), .int (nI n), .ref (a 23), .ref (a 24), .ref (a 25), .ref (a 26), .ref (a 27), .ref (a 28), .ref (a 29), .int (nI nr), .ref (a 30), .ref (a 31), .int (nI (nf + 1)), .ref (a 32), .ref (a 33), .int bw, .int bd, .int (nI nt), .ref (a 34), .ref (a 35), .ref (a 36), .ref (a 37)]) := by rw [hw29]; rfl
    have h31 : w28 32 = .inl (k.1, 8, .inl (upd mo nf q)) := by rw [hw29]; exact h25
    have h32 : w28 33 = .inl (k.1, 8, .inl (upd mf nf f)) := by rw [hw29]; exact h26
    have hfr33 : ∀ z, (z < 32 ∨ 33 < z) ∧ z ≠ 22 → w28 z = w z := fun z hz => by rw [hw29]; exact (va_up_ne _ _ (by omega)).trans (hfr27 z hz)
    refine lv_aload_n hx hb dD_flowRow_133 rfl (lv_at hl 2 rfl) ?_
    refine g_get hx hb hts inD hown hK hG 22 (by decide) h30 rfl 12 (by decide) lkD_122 rfl dD_flowRow_134 ?_
    exact g_iret hQ hx hb hr hlk hG hK hS (by decide) (by decide) ⟨by first | rfl | omega | (simp_all; done) | grind, h30, ⟨h31, h32⟩, hfr33⟩ dD_flowRow_137
  · refine lv_aload_n hx hb dD_flowRow_7 rfl (lv_at hl 0 rfl) ?_
    refine g_get hx hb hts inD hown hK hG 22 (by decide) hsD22 rfl 12 (by decide) lkD_122 rfl dD_flowRow_8 ?_
    refine lv_iconst (v := 1) hx hb dD_flowRow_11 (by decide) ?_
    refine ln_isub (x := nf) (y := 1) hx hb dD_flowRow_12 (by omega) ?_
    refine lv_goto (tgt := 17) hx hb dD_flowRow_13 (by decide) ?_
    refine lv_istore_n (lv' := [(3, .int (nI (nf - 1))), (0, .ref (a 22)), (1, .int q), (2, .int f)]) hx hb dD_flowRow_17 rfl hl (by decide) rfl (fun ls hl => ?_)
    refine lv_aload_n hx hb dD_flowRow_18 rfl (lv_at hl 1 rfl) ?_
    refine g_get hx hb hts inD hown hK hG 22 (by decide) hsD22 rfl 12 (by decide) lkD_122 rfl dD_flowRow_19 ?_
    refine ln_if_le (x := nf) (tgt := 49) hx hb dD_flowRow_22 (by decide) (by omega) (fun c34 => absurd c34 (by omega)) (fun c34 => ?_)
    refine lv_iload_n hx hb dD_flowRow_25 rfl (lv_at hl 2 rfl) ?_
    refine lv_aload_n hx hb dD_flowRow_26 rfl (lv_at hl 1 rfl) ?_
    refine g_get hx hb hts inD hown hK hG 22 (by decide) hsD22 rfl 13 (by decide) lkD_38 rfl dD_flowRow_27 ?_
    refine lv_iload_n hx hb dD_flowRow_30 rfl (lv_at hl 0 rfl) ?_
    refine g_iald hx hb hK hG 32 (by decide) hsDF32 (j := nf - 1) (by omega) (by decide) dD_flowRow_31 ?_
    refine lv_icmp_le (tgt := 45) hx hb dD_flowRow_32 (by decide) (fun c35 => (absurd c35 (hm.resolve_left (by omega)).1)) (fun c35 => ?_)
    refine lv_iload_n hx hb dD_flowRow_35 rfl (lv_at hl 3 rfl) ?_
    refine lv_aload_n hx hb dD_flowRow_36 rfl (lv_at hl 1 rfl) ?_
    refine g_get hx hb hts inD hown hK hG 22 (by decide) hsD22 rfl 14 (by decide) lkD_41 rfl dD_flowRow_37 ?_
    refine lv_iload_n hx hb dD_flowRow_40 rfl (lv_at hl 0 rfl) ?_
    refine g_iald hx hb hK hG 33 (by decide) hsDF33 (j := nf - 1) (by omega) (by decide) dD_flowRow_41 ?_
    refine lv_icmp_ge (tgt := 49) hx hb dD_flowRow_42 (by decide) (fun c36 => ?_) (fun c36 => (absurd (Int32.not_lt.mp (hm.resolve_left (by omega)).2) c36))
    refine lv_iconst (v := 0) hx hb dD_flowRow_49 (by decide) ?_
    refine lv_istore (lv' := [(4, .int 0), (3, .int (nI (nf - 1))), (0, .ref (a 22)), (1, .int q), (2, .int f)]) hx hb dD_flowRow_50 hl (by decide) rfl (fun ls hl => ?_)
    refine lv_aload_n hx hb dD_flowRow_52 rfl (lv_at hl 2 rfl) ?_
    refine lv_aload_n hx hb dD_flowRow_53 rfl (lv_at hl 2 rfl) ?_
    refine g_get hx hb hts inD hown hK hG 22 (by decide) hsD22 rfl 12 (by decide) lkD_122 rfl dD_flowRow_54 ?_
    refine lv_bipush (v := 8) hx hb dD_flowRow_57 (by decide) ?_
    refine ln_icmp_ne (x := nf) (y := 8) (tgt := 66) hx hb dD_flowRow_59 (by decide) (by omega) (by decide) (fun c37 => ?_) (fun c37 => absurd c37 (by omega))
    refine lv_iconst (v := 0) hx hb dD_flowRow_66 (by decide) ?_
    refine lv_iload_n hx hb dD_flowRow_67 rfl (lv_at hl 3 rfl) ?_
    refine lv_iconst (v := 0) hx hb dD_flowRow_68 (by decide) ?_
    refine lv_sipush (v := 10000) hx hb dD_flowRow_69 (by decide) ?_
    refine g_SiR (As := [.int q, .int 0, .int 10000]) (rest := [.int 0, .ref (a 22)]) (kD_in hA q 0 10000) calD_in cvD_in mlD_66 hx hb hml hown hts hB hG hK hS ⟨by decide, by decide⟩ rfl hl.1 rfl (Nat.le_of_ble_eq_true rfl) dD_flowRow_72 ⟨by decide, by decide⟩ (fun H locs hG hS => ?_)
    refine lb_if_eq (tgt := 88) hx hb dD_flowRow_75 (by decide) (fun h9 => absurd h1 h9) (fun _ => ?_)
    refine lv_iload_n hx hb dD_flowRow_78 rfl (lv_at hl 4 rfl) ?_
    refine lv_iconst (v := 0) hx hb dD_flowRow_79 (by decide) ?_
    refine lv_ldc (v := 1000000) hx hb hown (hts _ kcD_125) dD_flowRow_80 ?_
    refine g_SiR (As := [.int f, .int 0, .int 1000000]) (rest := [.int 0, .ref (a 22)]) (kD_in hA f 0 1000000) calD_in cvD_in mlD_66 hx hb hml hown hts hB hG hK hS ⟨by decide, by decide⟩ rfl hl.1 rfl (Nat.le_of_ble_eq_true rfl) dD_flowRow_82 ⟨by decide, by decide⟩ (fun H locs hG hS => ?_)
    refine lb_if_ne (tgt := 92) hx hb dD_flowRow_85 (by decide) (fun _ => ?_) (fun h9 => absurd h2 h9)
    refine lv_iconst (v := 0) hx hb dD_flowRow_92 (by decide) ?_
    refine lv_iload hx hb dD_flowRow_93 (lv_at hl 0 rfl) ?_
    refine g_Vi (i := 22) (As := [.int 0, .int 0, .int 0]) (rest := []) (kD_throwing hA hsD22 0 0 0) calD_throwing cvD_throwing mlD_77 hx hb hml hown hts hB hG hK hS (by decide) hsD22 rfl ⟨by decide, by decide⟩ rfl hl.1 rfl (Nat.le_of_ble_eq_true rfl) dD_flowRow_95 ⟨by decide, by decide⟩ (fun r40 w41 H locs hp42 hG hS => ?_)
    obtain ⟨er44, h43, hfr45⟩ := hp42
    have h46 : w41 32 = .inl (k.1, 8, .inl mo) := (hfr45 32 (by omega)).trans hsDF32
    have h47 : w41 33 = .inl (k.1, 8, .inl mf) := (hfr45 33 (by omega)).trans hsDF33
    have hfr48 : ∀ z, (z < 32 ∨ 33 < z) ∧ z ≠ 22 → w41 z = w z := fun z hz => (hfr45 z (by omega)).trans (hfr0 z hz)
    rw [er44]
    refine lb_if_eq (tgt := 103) hx hb dD_flowRow_98 (by decide) (fun _ => ?_) (fun h9 => absurd h9 (by decide))
    refine lv_aload_n hx hb dD_flowRow_103 rfl (lv_at hl 2 rfl) ?_
    refine g_get hx hb hts inD hown hK hG 22 (by decide) h43 rfl 13 (by decide) lkD_38 rfl dD_flowRow_104 ?_
    refine lv_aload_n hx hb dD_flowRow_107 rfl (lv_at hl 2 rfl) ?_
    refine g_get hx hb hts inD hown hK hG 22 (by decide) h43 rfl 12 (by decide) lkD_122 rfl dD_flowRow_108 ?_
    refine lv_iload_n hx hb dD_flowRow_111 rfl (lv_at hl 3 rfl) ?_
    refine g_iast hx hb hK hA hG hS 32 (by decide) h46 (j := nf) (by omega) (by decide) dD_flowRow_112 (fun H locs hG hS => ?_)
    obtain ⟨w50, hw51⟩ : ∃ zz9, zz9 = va_up w41 32 (.inl (k.1, 8, .inl (upd mo nf q))) := ⟨_, rfl⟩
    replace hG : gW D a w50 H := by rw [hw51]; exact hG
    have h52 : w50 22 = .inr (5, [.int (thrI 0 0 0), .int (nI n), .ref (a 23), .ref (a 24), .ref (a 25), .ref (a 26), .ref (a 27), .ref (a 28), .ref (a 29), .int (nI nr), .ref (a 30), .ref (a 31), .int (nI nf), .ref (a 32), .ref (a 33), .int bw, .int bd, .int (nI nt), .ref (a 34), .ref (a 35), .ref (a 36), .ref (a 37)]) := by rw [hw51]; exact h43
    have h53 : w50 32 = .inl (k.1, 8, .inl (upd mo nf q)) := by rw [hw51]; rfl
    have h54 : w50 33 = .inl (k.1, 8, .inl mf) := by rw [hw51]; exact h47
    have hfr55 : ∀ z, (z < 32 ∨ 33 < z) ∧ z ≠ 22 → w50 z = w z := fun z hz => by rw [hw51]; exact (va_up_ne _ _ (by omega)).trans (hfr48 z hz)
    refine lv_aload_n hx hb dD_flowRow_113 rfl (lv_at hl 2 rfl) ?_
    refine g_get hx hb hts inD hown hK hG 22 (by decide) h52 rfl 14 (by decide) lkD_41 rfl dD_flowRow_114 ?_
    refine lv_aload_n hx hb dD_flowRow_117 rfl (lv_at hl 2 rfl) ?_
    refine g_get hx hb hts inD hown hK hG 22 (by decide) h52 rfl 12 (by decide) lkD_122 rfl dD_flowRow_118 ?_
    refine lv_iload_n hx hb dD_flowRow_121 rfl (lv_at hl 4 rfl) ?_
    refine g_iast hx hb hK hA hG hS 33 (by decide) h54 (j := nf) (by omega) (by decide) dD_flowRow_122 (fun H locs hG hS => ?_)
    obtain ⟨w56, hw57⟩ : ∃ zz9, zz9 = va_up w50 33 (.inl (k.1, 8, .inl (upd mf nf f))) := ⟨_, rfl⟩
    replace hG : gW D a w56 H := by rw [hw57]; exact hG
    have h58 : w56 22 = .inr (5, [.int (thrI 0 0 0), .int (nI n), .ref (a 23), .ref (a 24), .ref (a 25), .ref (a 26), .ref (a 27), .ref (a 28), .ref (a 29), .int (nI nr), .ref (a 30), .ref (a 31), .int (nI nf), .ref (a 32), .ref (a 33), .int bw, .int bd, .int (nI nt), .ref (a 34), .ref (a 35), .ref (a 36), .ref (a 37)]) := by rw [hw57]; exact h52
    have h59 : w56 32 = .inl (k.1, 8, .inl (upd mo nf q)) := by rw [hw57]; exact h53
    have h60 : w56 33 = .inl (k.1, 8, .inl (upd mf nf f)) := by rw [hw57]; rfl
    have hfr61 : ∀ z, (z < 32 ∨ 33 < z) ∧ z ≠ 22 → w56 z = w z := fun z hz => by rw [hw57]; exact (va_up_ne _ _ (by omega)).trans (hfr55 z hz)
    refine lv_aload_n hx hb dD_flowRow_123 rfl (lv_at hl 2 rfl) ?_
    refine lv_dup hx hb dD_flowRow_124 rfl ?_
    refine g_get hx hb hts inD hown hK hG 22 (by decide) h58 rfl 12 (by decide) lkD_122 rfl dD_flowRow_125 ?_
    refine lv_iconst (v := 1) hx hb dD_flowRow_128 (by decide) ?_
    refine ln_iadd (x := nf) (y := 1) hx hb dD_flowRow_129 ?_
    refine g_put hx hb hts inD tyD tokD nokD hown hK hA hG hS 22 (by decide) h58 rfl 12 (by decide) lkD_122 rfl (ty := .int) (by decide +kernel) rfl rfl (Nat.le_of_ble_eq_true rfl) dD_flowRow_130 (fun H locs hG hS => ?_)
    obtain ⟨w62, hw63⟩ : ∃ zz9, zz9 = va_up w56 22 (.inr (5, [.int (thrI 0 0 0), .int (nI n), .ref (a 23), .ref (a 24), .ref (a 25), .ref (a 26), .ref (a 27), .ref (a 28), .ref (a 29), .int (nI nr), .ref (a 30), .ref (a 31), .int (nI (nf + 1)), .ref (a 32), .ref (a 33), .int bw, .int bd, .int (nI nt), .ref (a 34), .ref (a 35), .ref (a 36), .ref (a 37)])) := ⟨_, rfl⟩
    replace hG : gW D a w62 H := by rw [hw63]; exact hG
    have h64 : w62 22 = .inr (5, [.int (thrI 0 0 0), .int (nI n), .ref (a 23), .ref (a 24), .ref (a 25), .ref (a 26), .ref (a 27), .ref (a 28), .ref (a 29), .int (nI nr), .ref (a 30), .ref (a 31), .int (nI (nf + 1)), .ref (a 32), .ref (a 33), .int bw, .int bd, .int (nI nt), .ref (a 34), .ref (a 35), .ref (a 36), .ref (a 37)]) := by rw [hw63]; rfl
    have h65 : w62 32 = .inl (k.1, 8, .inl (upd mo nf q)) := by rw [hw63]; exact h59
    have h66 : w62 33 = .inl (k.1, 8, .inl (upd mf nf f)) := by rw [hw63]; exact h60
    have hfr67 : ∀ z, (z < 32 ∨ 33 < z) ∧ z ≠ 22 → w62 z = w z := fun z hz => by rw [hw63]; exact (va_up_ne _ _ (by omega)).trans (hfr61 z hz)
    refine lv_aload_n hx hb dD_flowRow_133 rfl (lv_at hl 2 rfl) ?_
    refine g_get hx hb hts inD hown hK hG 22 (by decide) h64 rfl 12 (by decide) lkD_122 rfl dD_flowRow_134 ?_
    exact g_iret hQ hx hb hr hlk hG hK hS (by decide) (by decide) ⟨by first | rfl | omega | (simp_all; done) | grind, h64, ⟨h65, h66⟩, hfr67⟩ dD_flowRow_137

abbrev rmD_flowRow_f : Room := { frames := 1, cells := 0, slots := 0, locals := 23 }
set_option maxRecDepth 100000 in
set_option maxHeartbeats 4000000 in
theorem kD_flowRow_f {l : Launch} {D : va_G} {k : ClassId × ClassId × ClassId} {a : Nat → Nat} {B0 : Nat} {w : Nat → va_E} (hA : gA B0 a) {th : Int32} {n : Nat} {nr : Nat} {nf : Nat} {bw : Int32} {bd : Int32} {nt : Nat} {mo : Nat → Int32} {mf : Nat → Int32} (hsD : sD k a w th n nr nf bw bd nt) (hsDF : sDF k a w mo mf) (q : Int32) (f : Int32) (hn : nf = 8) : Met l yD_flowRow (tbw yD_flowRow cD_flowRow 5 (some .int)) rmD_flowRow_f (gPc D k a B0 w [.ref (a 22), .int q, .int f]) (va_Qi (fun rr9 w1 => rr9 = 0 ∧ (sD k a w1 1 n nr nf bw bd nt) ∧ (sDF k a w1 mo mf) ∧ ∀ z, (z < 32 ∨ 33 < z) ∧ z ≠ 22 → w1 z = w z) (gB D k a) (gF B0)) 0 0 (gF B0) := by
  have hsD22 := hsD
  obtain ⟨hsDF32, hsDF33⟩ := hsDF
  refine g_ofW (by decide) rfl (fun p e s m args below meth c Q hQ hx hb hr hlk hml hown hts hB hG hK hS ls hl => ?_)
  have hl : lv_has ls 5 [(0, .ref (a 22)), (1, .int q), (2, .int f)] := hl
  have hown : s.vm.findClass RD = some m.cls := hown
  have hfr0 : ∀ z, (z < 32 ∨ 33 < z) ∧ z ≠ 22 → w z = w z := fun _ _ => rfl
  refine lv_aload_n hx hb dD_flowRow_0 rfl (lv_at hl 0 rfl) ?_
  refine g_get hx hb hts inD hown hK hG 22 (by decide) hsD22 rfl 12 (by decide) lkD_122 rfl dD_flowRow_1 ?_
  refine ln_if_le (x := nf) (tgt := 16) hx hb dD_flowRow_4 (by decide) (by omega) (fun c1 => absurd c1 (by omega)) (fun c1 => ?_)
  refine lv_aload_n hx hb dD_flowRow_7 rfl (lv_at hl 0 rfl) ?_
  refine g_get hx hb hts inD hown hK hG 22 (by decide) hsD22 rfl 12 (by decide) lkD_122 rfl dD_flowRow_8 ?_
  refine lv_iconst (v := 1) hx hb dD_flowRow_11 (by decide) ?_
  refine ln_isub (x := nf) (y := 1) hx hb dD_flowRow_12 (by omega) ?_
  refine lv_goto (tgt := 17) hx hb dD_flowRow_13 (by decide) ?_
  refine lv_istore_n (lv' := [(3, .int (nI (nf - 1))), (0, .ref (a 22)), (1, .int q), (2, .int f)]) hx hb dD_flowRow_17 rfl hl (by decide) rfl (fun ls hl => ?_)
  refine lv_aload_n hx hb dD_flowRow_18 rfl (lv_at hl 1 rfl) ?_
  refine g_get hx hb hts inD hown hK hG 22 (by decide) hsD22 rfl 12 (by decide) lkD_122 rfl dD_flowRow_19 ?_
  refine ln_if_le (x := nf) (tgt := 49) hx hb dD_flowRow_22 (by decide) (by omega) (fun c2 => absurd c2 (by omega)) (fun c2 => ?_)
  refine lv_iload_n hx hb dD_flowRow_25 rfl (lv_at hl 2 rfl) ?_
  refine lv_aload_n hx hb dD_flowRow_26 rfl (lv_at hl 1 rfl) ?_
  refine g_get hx hb hts inD hown hK hG 22 (by decide) hsD22 rfl 13 (by decide) lkD_38 rfl dD_flowRow_27 ?_
  refine lv_iload_n hx hb dD_flowRow_30 rfl (lv_at hl 0 rfl) ?_
  refine g_iald hx hb hK hG 32 (by decide) hsDF32 (j := nf - 1) (by omega) (by decide) dD_flowRow_31 ?_
  refine lv_icmp_le (tgt := 45) hx hb dD_flowRow_32 (by decide) (fun c3 => ?_) (fun c3 => ?_)
  · refine lv_iconst (v := 1) hx hb dD_flowRow_45 (by decide) ?_
    refine lv_goto (tgt := 50) hx hb dD_flowRow_46 (by decide) ?_
    refine lv_istore (lv' := [(4, .int 1), (3, .int (nI (nf - 1))), (0, .ref (a 22)), (1, .int q), (2, .int f)]) hx hb dD_flowRow_50 hl (by decide) rfl (fun ls hl => ?_)
    refine lv_aload_n hx hb dD_flowRow_52 rfl (lv_at hl 2 rfl) ?_
    refine lv_aload_n hx hb dD_flowRow_53 rfl (lv_at hl 2 rfl) ?_
    refine g_get hx hb hts inD hown hK hG 22 (by decide) hsD22 rfl 12 (by decide) lkD_122 rfl dD_flowRow_54 ?_
    refine lv_bipush (v := 8) hx hb dD_flowRow_57 (by decide) ?_
    refine ln_icmp_ne (x := nf) (y := 8) (tgt := 66) hx hb dD_flowRow_59 (by decide) (by omega) (by decide) (fun c4 => absurd c4 (by omega)) (fun c4 => ?_)
    refine lv_iconst (v := 1) hx hb dD_flowRow_62 (by decide) ?_
    refine lv_goto (tgt := 67) hx hb dD_flowRow_63 (by decide) ?_
    refine lv_iload_n hx hb dD_flowRow_67 rfl (lv_at hl 3 rfl) ?_
    refine lv_iconst (v := 0) hx hb dD_flowRow_68 (by decide) ?_
    refine lv_sipush (v := 10000) hx hb dD_flowRow_69 (by decide) ?_
    refine g_SiR (As := [.int q, .int 0, .int 10000]) (rest := [.int 1, .ref (a 22)]) (kD_in hA q 0 10000) calD_in cvD_in mlD_66 hx hb hml hown hts hB hG hK hS ⟨by decide, by decide⟩ rfl hl.1 rfl (Nat.le_of_ble_eq_true rfl) dD_flowRow_72 ⟨by decide, by decide⟩ (fun H locs hG hS => ?_)
    refine lb_if_eq (tgt := 88) hx hb dD_flowRow_75 (by decide) (fun c5 => ?_) (fun c5 => ?_)
    · refine lv_iconst (v := 1) hx hb dD_flowRow_88 (by decide) ?_
      refine lv_goto (tgt := 93) hx hb dD_flowRow_89 (by decide) ?_
      refine lv_iload hx hb dD_flowRow_93 (lv_at hl 0 rfl) ?_
      refine g_Vi (i := 22) (As := [.int 1, .int 1, .int 1]) (rest := []) (kD_throwing hA hsD22 1 1 1) calD_throwing cvD_throwing mlD_77 hx hb hml hown hts hB hG hK hS (by decide) hsD22 rfl ⟨by decide, by decide⟩ rfl hl.1 rfl (Nat.le_of_ble_eq_true rfl) dD_flowRow_95 ⟨by decide, by decide⟩ (fun r6 w7 H locs hp8 hG hS => ?_)
      obtain ⟨er10, h9, hfr11⟩ := hp8
      have h12 : w7 32 = .inl (k.1, 8, .inl mo) := (hfr11 32 (by omega)).trans hsDF32
      have h13 : w7 33 = .inl (k.1, 8, .inl mf) := (hfr11 33 (by omega)).trans hsDF33
      have hfr14 : ∀ z, (z < 32 ∨ 33 < z) ∧ z ≠ 22 → w7 z = w z := fun z hz => (hfr11 z (by omega)).trans (hfr0 z hz)
      rw [er10]
      refine lb_if_eq (tgt := 103) hx hb dD_flowRow_98 (by decide) (fun h9 => absurd (by decide) h9) (fun _ => ?_)
      refine lv_iconst (v := 0) hx hb dD_flowRow_101 (by decide) ?_
      exact g_iret hQ hx hb hr hlk hG hK hS (by decide) (by decide) ⟨by first | rfl | omega | (simp_all; done) | grind, h9, ⟨h12, h13⟩, hfr14⟩ dD_flowRow_102
    · refine lv_iload_n hx hb dD_flowRow_78 rfl (lv_at hl 4 rfl) ?_
      refine lv_iconst (v := 0) hx hb dD_flowRow_79 (by decide) ?_
      refine lv_ldc (v := 1000000) hx hb hown (hts _ kcD_125) dD_flowRow_80 ?_
      refine g_SiR (As := [.int f, .int 0, .int 1000000]) (rest := [.int 1, .ref (a 22)]) (kD_in hA f 0 1000000) calD_in cvD_in mlD_66 hx hb hml hown hts hB hG hK hS ⟨by decide, by decide⟩ rfl hl.1 rfl (Nat.le_of_ble_eq_true rfl) dD_flowRow_82 ⟨by decide, by decide⟩ (fun H locs hG hS => ?_)
      refine lb_if_ne (tgt := 92) hx hb dD_flowRow_85 (by decide) (fun c16 => ?_) (fun c16 => ?_)
      · refine lv_iconst (v := 0) hx hb dD_flowRow_92 (by decide) ?_
        refine lv_iload hx hb dD_flowRow_93 (lv_at hl 0 rfl) ?_
        refine g_Vi (i := 22) (As := [.int 1, .int 0, .int 1]) (rest := []) (kD_throwing hA hsD22 1 0 1) calD_throwing cvD_throwing mlD_77 hx hb hml hown hts hB hG hK hS (by decide) hsD22 rfl ⟨by decide, by decide⟩ rfl hl.1 rfl (Nat.le_of_ble_eq_true rfl) dD_flowRow_95 ⟨by decide, by decide⟩ (fun r17 w18 H locs hp19 hG hS => ?_)
        obtain ⟨er21, h20, hfr22⟩ := hp19
        have h23 : w18 32 = .inl (k.1, 8, .inl mo) := (hfr22 32 (by omega)).trans hsDF32
        have h24 : w18 33 = .inl (k.1, 8, .inl mf) := (hfr22 33 (by omega)).trans hsDF33
        have hfr25 : ∀ z, (z < 32 ∨ 33 < z) ∧ z ≠ 22 → w18 z = w z := fun z hz => (hfr22 z (by omega)).trans (hfr0 z hz)
        rw [er21]
        refine lb_if_eq (tgt := 103) hx hb dD_flowRow_98 (by decide) (fun h9 => absurd (by decide) h9) (fun _ => ?_)
        refine lv_iconst (v := 0) hx hb dD_flowRow_101 (by decide) ?_
        exact g_iret hQ hx hb hr hlk hG hK hS (by decide) (by decide) ⟨by first | rfl | omega | (simp_all; done) | grind, h20, ⟨h23, h24⟩, hfr25⟩ dD_flowRow_102
      · refine lv_iconst (v := 1) hx hb dD_flowRow_88 (by decide) ?_
        refine lv_goto (tgt := 93) hx hb dD_flowRow_89 (by decide) ?_
        refine lv_iload hx hb dD_flowRow_93 (lv_at hl 0 rfl) ?_
        refine g_Vi (i := 22) (As := [.int 1, .int 1, .int 1]) (rest := []) (kD_throwing hA hsD22 1 1 1) calD_throwing cvD_throwing mlD_77 hx hb hml hown hts hB hG hK hS (by decide) hsD22 rfl ⟨by decide, by decide⟩ rfl hl.1 rfl (Nat.le_of_ble_eq_true rfl) dD_flowRow_95 ⟨by decide, by decide⟩ (fun r27 w28 H locs hp29 hG hS => ?_)
        obtain ⟨er31, h30, hfr32⟩ := hp29
        have h33 : w28 32 = .inl (k.1, 8, .inl mo) := (hfr32 32 (by omega)).trans hsDF32
        have h34 : w28 33 = .inl (k.1, 8, .inl mf) := (hfr32 33 (by omega)).trans hsDF33
        have hfr35 : ∀ z, (z < 32 ∨ 33 < z) ∧ z ≠ 22 → w28 z = w z := fun z hz => (hfr32 z (by omega)).trans (hfr0 z hz)
        rw [er31]
        refine lb_if_eq (tgt := 103) hx hb dD_flowRow_98 (by decide) (fun h9 => absurd (by decide) h9) (fun _ => ?_)
        refine lv_iconst (v := 0) hx hb dD_flowRow_101 (by decide) ?_
        exact g_iret hQ hx hb hr hlk hG hK hS (by decide) (by decide) ⟨by first | rfl | omega | (simp_all; done) | grind, h30, ⟨h33, h34⟩, hfr35⟩ dD_flowRow_102
  · refine lv_iload_n hx hb dD_flowRow_35 rfl (lv_at hl 3 rfl) ?_
    refine lv_aload_n hx hb dD_flowRow_36 rfl (lv_at hl 1 rfl) ?_
    refine g_get hx hb hts inD hown hK hG 22 (by decide) hsD22 rfl 14 (by decide) lkD_41 rfl dD_flowRow_37 ?_
    refine lv_iload_n hx hb dD_flowRow_40 rfl (lv_at hl 0 rfl) ?_
    refine g_iald hx hb hK hG 33 (by decide) hsDF33 (j := nf - 1) (by omega) (by decide) dD_flowRow_41 ?_
    refine lv_icmp_ge (tgt := 49) hx hb dD_flowRow_42 (by decide) (fun c37 => ?_) (fun c37 => ?_)
    · refine lv_iconst (v := 0) hx hb dD_flowRow_49 (by decide) ?_
      refine lv_istore (lv' := [(4, .int 0), (3, .int (nI (nf - 1))), (0, .ref (a 22)), (1, .int q), (2, .int f)]) hx hb dD_flowRow_50 hl (by decide) rfl (fun ls hl => ?_)
      refine lv_aload_n hx hb dD_flowRow_52 rfl (lv_at hl 2 rfl) ?_
      refine lv_aload_n hx hb dD_flowRow_53 rfl (lv_at hl 2 rfl) ?_
      refine g_get hx hb hts inD hown hK hG 22 (by decide) hsD22 rfl 12 (by decide) lkD_122 rfl dD_flowRow_54 ?_
      refine lv_bipush (v := 8) hx hb dD_flowRow_57 (by decide) ?_
      refine ln_icmp_ne (x := nf) (y := 8) (tgt := 66) hx hb dD_flowRow_59 (by decide) (by omega) (by decide) (fun c38 => absurd c38 (by omega)) (fun c38 => ?_)
      refine lv_iconst (v := 1) hx hb dD_flowRow_62 (by decide) ?_
      refine lv_goto (tgt := 67) hx hb dD_flowRow_63 (by decide) ?_
      refine lv_iload_n hx hb dD_flowRow_67 rfl (lv_at hl 3 rfl) ?_
      refine lv_iconst (v := 0) hx hb dD_flowRow_68 (by decide) ?_
      refine lv_sipush (v := 10000) hx hb dD_flowRow_69 (by decide) ?_
      refine g_SiR (As := [.int q, .int 0, .int 10000]) (rest := [.int 1, .ref (a 22)]) (kD_in hA q 0 10000) calD_in cvD_in mlD_66 hx hb hml hown hts hB hG hK hS ⟨by decide, by decide⟩ rfl hl.1 rfl (Nat.le_of_ble_eq_true rfl) dD_flowRow_72 ⟨by decide, by decide⟩ (fun H locs hG hS => ?_)
      refine lb_if_eq (tgt := 88) hx hb dD_flowRow_75 (by decide) (fun c39 => ?_) (fun c39 => ?_)
      · refine lv_iconst (v := 1) hx hb dD_flowRow_88 (by decide) ?_
        refine lv_goto (tgt := 93) hx hb dD_flowRow_89 (by decide) ?_
        refine lv_iload hx hb dD_flowRow_93 (lv_at hl 0 rfl) ?_
        refine g_Vi (i := 22) (As := [.int 1, .int 1, .int 0]) (rest := []) (kD_throwing hA hsD22 1 1 0) calD_throwing cvD_throwing mlD_77 hx hb hml hown hts hB hG hK hS (by decide) hsD22 rfl ⟨by decide, by decide⟩ rfl hl.1 rfl (Nat.le_of_ble_eq_true rfl) dD_flowRow_95 ⟨by decide, by decide⟩ (fun r40 w41 H locs hp42 hG hS => ?_)
        obtain ⟨er44, h43, hfr45⟩ := hp42
        have h46 : w41 32 = .inl (k.1, 8, .inl mo) := (hfr45 32 (by omega)).trans hsDF32
        have h47 : w41 33 = .inl (k.1, 8, .inl mf) := (hfr45 33 (by omega)).trans hsDF33
        have hfr48 : ∀ z, (z < 32 ∨ 33 < z) ∧ z ≠ 22 → w41 z = w z := fun z hz => (hfr45 z (by omega)).trans (hfr0 z hz)
        rw [er44]
        refine lb_if_eq (tgt := 103) hx hb dD_flowRow_98 (by decide) (fun h9 => absurd (by decide) h9) (fun _ => ?_)
        refine lv_iconst (v := 0) hx hb dD_flowRow_101 (by decide) ?_
        exact g_iret hQ hx hb hr hlk hG hK hS (by decide) (by decide) ⟨by first | rfl | omega | (simp_all; done) | grind, h43, ⟨h46, h47⟩, hfr48⟩ dD_flowRow_102
      · refine lv_iload_n hx hb dD_flowRow_78 rfl (lv_at hl 4 rfl) ?_
        refine lv_iconst (v := 0) hx hb dD_flowRow_79 (by decide) ?_
        refine lv_ldc (v := 1000000) hx hb hown (hts _ kcD_125) dD_flowRow_80 ?_
        refine g_SiR (As := [.int f, .int 0, .int 1000000]) (rest := [.int 1, .ref (a 22)]) (kD_in hA f 0 1000000) calD_in cvD_in mlD_66 hx hb hml hown hts hB hG hK hS ⟨by decide, by decide⟩ rfl hl.1 rfl (Nat.le_of_ble_eq_true rfl) dD_flowRow_82 ⟨by decide, by decide⟩ (fun H locs hG hS => ?_)
        refine lb_if_ne (tgt := 92) hx hb dD_flowRow_85 (by decide) (fun c50 => ?_) (fun c50 => ?_)
        · refine lv_iconst (v := 0) hx hb dD_flowRow_92 (by decide) ?_
          refine lv_iload hx hb dD_flowRow_93 (lv_at hl 0 rfl) ?_
          refine g_Vi (i := 22) (As := [.int 1, .int 0, .int 0]) (rest := []) (kD_throwing hA hsD22 1 0 0) calD_throwing cvD_throwing mlD_77 hx hb hml hown hts hB hG hK hS (by decide) hsD22 rfl ⟨by decide, by decide⟩ rfl hl.1 rfl (Nat.le_of_ble_eq_true rfl) dD_flowRow_95 ⟨by decide, by decide⟩ (fun r51 w52 H locs hp53 hG hS => ?_)
          obtain ⟨er55, h54, hfr56⟩ := hp53
          have h57 : w52 32 = .inl (k.1, 8, .inl mo) := (hfr56 32 (by omega)).trans hsDF32
          have h58 : w52 33 = .inl (k.1, 8, .inl mf) := (hfr56 33 (by omega)).trans hsDF33
          have hfr59 : ∀ z, (z < 32 ∨ 33 < z) ∧ z ≠ 22 → w52 z = w z := fun z hz => (hfr56 z (by omega)).trans (hfr0 z hz)
          rw [er55]
          refine lb_if_eq (tgt := 103) hx hb dD_flowRow_98 (by decide) (fun h9 => absurd (by decide) h9) (fun _ => ?_)
          refine lv_iconst (v := 0) hx hb dD_flowRow_101 (by decide) ?_
          exact g_iret hQ hx hb hr hlk hG hK hS (by decide) (by decide) ⟨by first | rfl | omega | (simp_all; done) | grind, h54, ⟨h57, h58⟩, hfr59⟩ dD_flowRow_102
        · refine lv_iconst (v := 1) hx hb dD_flowRow_88 (by decide) ?_
          refine lv_goto (tgt := 93) hx hb dD_flowRow_89 (by decide) ?_
          refine lv_iload hx hb dD_flowRow_93 (lv_at hl 0 rfl) ?_
          refine g_Vi (i := 22) (As := [.int 1, .int 1, .int 0]) (rest := []) (kD_throwing hA hsD22 1 1 0) calD_throwing cvD_throwing mlD_77 hx hb hml hown hts hB hG hK hS (by decide) hsD22 rfl ⟨by decide, by decide⟩ rfl hl.1 rfl (Nat.le_of_ble_eq_true rfl) dD_flowRow_95 ⟨by decide, by decide⟩ (fun r61 w62 H locs hp63 hG hS => ?_)
          obtain ⟨er65, h64, hfr66⟩ := hp63
          have h67 : w62 32 = .inl (k.1, 8, .inl mo) := (hfr66 32 (by omega)).trans hsDF32
          have h68 : w62 33 = .inl (k.1, 8, .inl mf) := (hfr66 33 (by omega)).trans hsDF33
          have hfr69 : ∀ z, (z < 32 ∨ 33 < z) ∧ z ≠ 22 → w62 z = w z := fun z hz => (hfr66 z (by omega)).trans (hfr0 z hz)
          rw [er65]
          refine lb_if_eq (tgt := 103) hx hb dD_flowRow_98 (by decide) (fun h9 => absurd (by decide) h9) (fun _ => ?_)
          refine lv_iconst (v := 0) hx hb dD_flowRow_101 (by decide) ?_
          exact g_iret hQ hx hb hr hlk hG hK hS (by decide) (by decide) ⟨by first | rfl | omega | (simp_all; done) | grind, h64, ⟨h67, h68⟩, hfr69⟩ dD_flowRow_102
    · refine lv_iconst (v := 1) hx hb dD_flowRow_45 (by decide) ?_
      refine lv_goto (tgt := 50) hx hb dD_flowRow_46 (by decide) ?_
      refine lv_istore (lv' := [(4, .int 1), (3, .int (nI (nf - 1))), (0, .ref (a 22)), (1, .int q), (2, .int f)]) hx hb dD_flowRow_50 hl (by decide) rfl (fun ls hl => ?_)
      refine lv_aload_n hx hb dD_flowRow_52 rfl (lv_at hl 2 rfl) ?_
      refine lv_aload_n hx hb dD_flowRow_53 rfl (lv_at hl 2 rfl) ?_
      refine g_get hx hb hts inD hown hK hG 22 (by decide) hsD22 rfl 12 (by decide) lkD_122 rfl dD_flowRow_54 ?_
      refine lv_bipush (v := 8) hx hb dD_flowRow_57 (by decide) ?_
      refine ln_icmp_ne (x := nf) (y := 8) (tgt := 66) hx hb dD_flowRow_59 (by decide) (by omega) (by decide) (fun c71 => absurd c71 (by omega)) (fun c71 => ?_)
      refine lv_iconst (v := 1) hx hb dD_flowRow_62 (by decide) ?_
      refine lv_goto (tgt := 67) hx hb dD_flowRow_63 (by decide) ?_
      refine lv_iload_n hx hb dD_flowRow_67 rfl (lv_at hl 3 rfl) ?_
      refine lv_iconst (v := 0) hx hb dD_flowRow_68 (by decide) ?_
      refine lv_sipush (v := 10000) hx hb dD_flowRow_69 (by decide) ?_
      refine g_SiR (As := [.int q, .int 0, .int 10000]) (rest := [.int 1, .ref (a 22)]) (kD_in hA q 0 10000) calD_in cvD_in mlD_66 hx hb hml hown hts hB hG hK hS ⟨by decide, by decide⟩ rfl hl.1 rfl (Nat.le_of_ble_eq_true rfl) dD_flowRow_72 ⟨by decide, by decide⟩ (fun H locs hG hS => ?_)
      refine lb_if_eq (tgt := 88) hx hb dD_flowRow_75 (by decide) (fun c72 => ?_) (fun c72 => ?_)
      · refine lv_iconst (v := 1) hx hb dD_flowRow_88 (by decide) ?_
        refine lv_goto (tgt := 93) hx hb dD_flowRow_89 (by decide) ?_
        refine lv_iload hx hb dD_flowRow_93 (lv_at hl 0 rfl) ?_
        refine g_Vi (i := 22) (As := [.int 1, .int 1, .int 1]) (rest := []) (kD_throwing hA hsD22 1 1 1) calD_throwing cvD_throwing mlD_77 hx hb hml hown hts hB hG hK hS (by decide) hsD22 rfl ⟨by decide, by decide⟩ rfl hl.1 rfl (Nat.le_of_ble_eq_true rfl) dD_flowRow_95 ⟨by decide, by decide⟩ (fun r73 w74 H locs hp75 hG hS => ?_)
        obtain ⟨er77, h76, hfr78⟩ := hp75
        have h79 : w74 32 = .inl (k.1, 8, .inl mo) := (hfr78 32 (by omega)).trans hsDF32
        have h80 : w74 33 = .inl (k.1, 8, .inl mf) := (hfr78 33 (by omega)).trans hsDF33
        have hfr81 : ∀ z, (z < 32 ∨ 33 < z) ∧ z ≠ 22 → w74 z = w z := fun z hz => (hfr78 z (by omega)).trans (hfr0 z hz)
        rw [er77]
        refine lb_if_eq (tgt := 103) hx hb dD_flowRow_98 (by decide) (fun h9 => absurd (by decide) h9) (fun _ => ?_)
        refine lv_iconst (v := 0) hx hb dD_flowRow_101 (by decide) ?_
        exact g_iret hQ hx hb hr hlk hG hK hS (by decide) (by decide) ⟨by first | rfl | omega | (simp_all; done) | grind, h76, ⟨h79, h80⟩, hfr81⟩ dD_flowRow_102
      · refine lv_iload_n hx hb dD_flowRow_78 rfl (lv_at hl 4 rfl) ?_
        refine lv_iconst (v := 0) hx hb dD_flowRow_79 (by decide) ?_
        refine lv_ldc (v := 1000000) hx hb hown (hts _ kcD_125) dD_flowRow_80 ?_
        refine g_SiR (As := [.int f, .int 0, .int 1000000]) (rest := [.int 1, .ref (a 22)]) (kD_in hA f 0 1000000) calD_in cvD_in mlD_66 hx hb hml hown hts hB hG hK hS ⟨by decide, by decide⟩ rfl hl.1 rfl (Nat.le_of_ble_eq_true rfl) dD_flowRow_82 ⟨by decide, by decide⟩ (fun H locs hG hS => ?_)
        refine lb_if_ne (tgt := 92) hx hb dD_flowRow_85 (by decide) (fun c83 => ?_) (fun c83 => ?_)
        · refine lv_iconst (v := 0) hx hb dD_flowRow_92 (by decide) ?_
          refine lv_iload hx hb dD_flowRow_93 (lv_at hl 0 rfl) ?_
          refine g_Vi (i := 22) (As := [.int 1, .int 0, .int 1]) (rest := []) (kD_throwing hA hsD22 1 0 1) calD_throwing cvD_throwing mlD_77 hx hb hml hown hts hB hG hK hS (by decide) hsD22 rfl ⟨by decide, by decide⟩ rfl hl.1 rfl (Nat.le_of_ble_eq_true rfl) dD_flowRow_95 ⟨by decide, by decide⟩ (fun r84 w85 H locs hp86 hG hS => ?_)
          obtain ⟨er88, h87, hfr89⟩ := hp86
          have h90 : w85 32 = .inl (k.1, 8, .inl mo) := (hfr89 32 (by omega)).trans hsDF32
          have h91 : w85 33 = .inl (k.1, 8, .inl mf) := (hfr89 33 (by omega)).trans hsDF33
          have hfr92 : ∀ z, (z < 32 ∨ 33 < z) ∧ z ≠ 22 → w85 z = w z := fun z hz => (hfr89 z (by omega)).trans (hfr0 z hz)
          rw [er88]
          refine lb_if_eq (tgt := 103) hx hb dD_flowRow_98 (by decide) (fun h9 => absurd (by decide) h9) (fun _ => ?_)
          refine lv_iconst (v := 0) hx hb dD_flowRow_101 (by decide) ?_
          exact g_iret hQ hx hb hr hlk hG hK hS (by decide) (by decide) ⟨by first | rfl | omega | (simp_all; done) | grind, h87, ⟨h90, h91⟩, hfr92⟩ dD_flowRow_102
        · refine lv_iconst (v := 1) hx hb dD_flowRow_88 (by decide) ?_
          refine lv_goto (tgt := 93) hx hb dD_flowRow_89 (by decide) ?_
          refine lv_iload hx hb dD_flowRow_93 (lv_at hl 0 rfl) ?_
          refine g_Vi (i := 22) (As := [.int 1, .int 1, .int 1]) (rest := []) (kD_throwing hA hsD22 1 1 1) calD_throwing cvD_throwing mlD_77 hx hb hml hown hts hB hG hK hS (by decide) hsD22 rfl ⟨by decide, by decide⟩ rfl hl.1 rfl (Nat.le_of_ble_eq_true rfl) dD_flowRow_95 ⟨by decide, by decide⟩ (fun r94 w95 H locs hp96 hG hS => ?_)
          obtain ⟨er98, h97, hfr99⟩ := hp96
          have h100 : w95 32 = .inl (k.1, 8, .inl mo) := (hfr99 32 (by omega)).trans hsDF32
          have h101 : w95 33 = .inl (k.1, 8, .inl mf) := (hfr99 33 (by omega)).trans hsDF33
          have hfr102 : ∀ z, (z < 32 ∨ 33 < z) ∧ z ≠ 22 → w95 z = w z := fun z hz => (hfr99 z (by omega)).trans (hfr0 z hz)
          rw [er98]
          refine lb_if_eq (tgt := 103) hx hb dD_flowRow_98 (by decide) (fun h9 => absurd (by decide) h9) (fun _ => ?_)
          refine lv_iconst (v := 0) hx hb dD_flowRow_101 (by decide) ?_
          exact g_iret hQ hx hb hr hlk hG hK hS (by decide) (by decide) ⟨by first | rfl | omega | (simp_all; done) | grind, h97, ⟨h100, h101⟩, hfr102⟩ dD_flowRow_102

abbrev rmD_flowRow_z : Room := { frames := 1, cells := 0, slots := 0, locals := 23 }
set_option maxRecDepth 100000 in
set_option maxHeartbeats 4000000 in
theorem kD_flowRow_z {l : Launch} {D : va_G} {k : ClassId × ClassId × ClassId} {a : Nat → Nat} {B0 : Nat} {w : Nat → va_E} (hA : gA B0 a) {th : Int32} {n : Nat} {nr : Nat} {nf : Nat} {bw : Int32} {bd : Int32} {nt : Nat} {mo : Nat → Int32} {mf : Nat → Int32} (hsD : sD k a w th n nr nf bw bd nt) (hsDF : sDF k a w mo mf) (q : Int32) (f : Int32) (hn : nf < 8) (hz : ¬ (rngI q 0 10000 ∧ rngI f 0 1000000)) : Met l yD_flowRow (tbw yD_flowRow cD_flowRow 5 (some .int)) rmD_flowRow_z (gPc D k a B0 w [.ref (a 22), .int q, .int f]) (va_Qi (fun rr9 w1 => rr9 = 0 ∧ (sD k a w1 2 n nr nf bw bd nt) ∧ (sDF k a w1 mo mf) ∧ ∀ z, (z < 32 ∨ 33 < z) ∧ z ≠ 22 → w1 z = w z) (gB D k a) (gF B0)) 0 0 (gF B0) := by
  have hsD22 := hsD
  obtain ⟨hsDF32, hsDF33⟩ := hsDF
  refine g_ofW (by decide) rfl (fun p e s m args below meth c Q hQ hx hb hr hlk hml hown hts hB hG hK hS ls hl => ?_)
  have hl : lv_has ls 5 [(0, .ref (a 22)), (1, .int q), (2, .int f)] := hl
  have hown : s.vm.findClass RD = some m.cls := hown
  have hfr0 : ∀ z, (z < 32 ∨ 33 < z) ∧ z ≠ 22 → w z = w z := fun _ _ => rfl
  refine lv_aload_n hx hb dD_flowRow_0 rfl (lv_at hl 0 rfl) ?_
  refine g_get hx hb hts inD hown hK hG 22 (by decide) hsD22 rfl 12 (by decide) lkD_122 rfl dD_flowRow_1 ?_
  refine ln_if_le (x := nf) (tgt := 16) hx hb dD_flowRow_4 (by decide) (by omega) (fun c1 => ?_) (fun c1 => ?_)
  · refine lv_iconst (v := 0) hx hb dD_flowRow_16 (by decide) ?_
    refine lv_istore_n (lv' := [(3, .int 0), (0, .ref (a 22)), (1, .int q), (2, .int f)]) hx hb dD_flowRow_17 rfl hl (by decide) rfl (fun ls hl => ?_)
    refine lv_aload_n hx hb dD_flowRow_18 rfl (lv_at hl 1 rfl) ?_
    refine g_get hx hb hts inD hown hK hG 22 (by decide) hsD22 rfl 12 (by decide) lkD_122 rfl dD_flowRow_19 ?_
    refine ln_if_le (x := nf) (tgt := 49) hx hb dD_flowRow_22 (by decide) (by omega) (fun c2 => ?_) (fun c2 => absurd c2 (by omega))
    refine lv_iconst (v := 0) hx hb dD_flowRow_49 (by decide) ?_
    refine lv_istore (lv' := [(4, .int 0), (3, .int 0), (0, .ref (a 22)), (1, .int q), (2, .int f)]) hx hb dD_flowRow_50 hl (by decide) rfl (fun ls hl => ?_)
    refine lv_aload_n hx hb dD_flowRow_52 rfl (lv_at hl 2 rfl) ?_
    refine lv_aload_n hx hb dD_flowRow_53 rfl (lv_at hl 2 rfl) ?_
    refine g_get hx hb hts inD hown hK hG 22 (by decide) hsD22 rfl 12 (by decide) lkD_122 rfl dD_flowRow_54 ?_
    refine lv_bipush (v := 8) hx hb dD_flowRow_57 (by decide) ?_
    refine ln_icmp_ne (x := nf) (y := 8) (tgt := 66) hx hb dD_flowRow_59 (by decide) (by omega) (by decide) (fun c3 => ?_) (fun c3 => absurd c3 (by omega))
    refine lv_iconst (v := 0) hx hb dD_flowRow_66 (by decide) ?_
    refine lv_iload_n hx hb dD_flowRow_67 rfl (lv_at hl 3 rfl) ?_
    refine lv_iconst (v := 0) hx hb dD_flowRow_68 (by decide) ?_
    refine lv_sipush (v := 10000) hx hb dD_flowRow_69 (by decide) ?_
    refine g_SiR (As := [.int q, .int 0, .int 10000]) (rest := [.int 0, .ref (a 22)]) (kD_in hA q 0 10000) calD_in cvD_in mlD_66 hx hb hml hown hts hB hG hK hS ⟨by decide, by decide⟩ rfl hl.1 rfl (Nat.le_of_ble_eq_true rfl) dD_flowRow_72 ⟨by decide, by decide⟩ (fun H locs hG hS => ?_)
    refine lb_if_eq (tgt := 88) hx hb dD_flowRow_75 (by decide) (fun c4 => ?_) (fun c4 => ?_)
    · refine lv_iconst (v := 1) hx hb dD_flowRow_88 (by decide) ?_
      refine lv_goto (tgt := 93) hx hb dD_flowRow_89 (by decide) ?_
      refine lv_iload hx hb dD_flowRow_93 (lv_at hl 0 rfl) ?_
      refine g_Vi (i := 22) (As := [.int 0, .int 1, .int 0]) (rest := []) (kD_throwing hA hsD22 0 1 0) calD_throwing cvD_throwing mlD_77 hx hb hml hown hts hB hG hK hS (by decide) hsD22 rfl ⟨by decide, by decide⟩ rfl hl.1 rfl (Nat.le_of_ble_eq_true rfl) dD_flowRow_95 ⟨by decide, by decide⟩ (fun r5 w6 H locs hp7 hG hS => ?_)
      obtain ⟨er9, h8, hfr10⟩ := hp7
      have h11 : w6 32 = .inl (k.1, 8, .inl mo) := (hfr10 32 (by omega)).trans hsDF32
      have h12 : w6 33 = .inl (k.1, 8, .inl mf) := (hfr10 33 (by omega)).trans hsDF33
      have hfr13 : ∀ z, (z < 32 ∨ 33 < z) ∧ z ≠ 22 → w6 z = w z := fun z hz => (hfr10 z (by omega)).trans (hfr0 z hz)
      rw [er9]
      refine lb_if_eq (tgt := 103) hx hb dD_flowRow_98 (by decide) (fun h9 => absurd (by decide) h9) (fun _ => ?_)
      refine lv_iconst (v := 0) hx hb dD_flowRow_101 (by decide) ?_
      exact g_iret hQ hx hb hr hlk hG hK hS (by decide) (by decide) ⟨by first | rfl | omega | (simp_all; done) | grind, h8, ⟨h11, h12⟩, hfr13⟩ dD_flowRow_102
    · refine lv_iload_n hx hb dD_flowRow_78 rfl (lv_at hl 4 rfl) ?_
      refine lv_iconst (v := 0) hx hb dD_flowRow_79 (by decide) ?_
      refine lv_ldc (v := 1000000) hx hb hown (hts _ kcD_125) dD_flowRow_80 ?_
      refine g_SiR (As := [.int f, .int 0, .int 1000000]) (rest := [.int 0, .ref (a 22)]) (kD_in hA f 0 1000000) calD_in cvD_in mlD_66 hx hb hml hown hts hB hG hK hS ⟨by decide, by decide⟩ rfl hl.1 rfl (Nat.le_of_ble_eq_true rfl) dD_flowRow_82 ⟨by decide, by decide⟩ (fun H locs hG hS => ?_)
      refine lb_if_ne (tgt := 92) hx hb dD_flowRow_85 (by decide) (fun c15 => ?_) (fun c15 => ?_)
      · exact absurd ⟨by assumption, by assumption⟩ hz
      · refine lv_iconst (v := 1) hx hb dD_flowRow_88 (by decide) ?_
        refine lv_goto (tgt := 93) hx hb dD_flowRow_89 (by decide) ?_
        refine lv_iload hx hb dD_flowRow_93 (lv_at hl 0 rfl) ?_
        refine g_Vi (i := 22) (As := [.int 0, .int 1, .int 0]) (rest := []) (kD_throwing hA hsD22 0 1 0) calD_throwing cvD_throwing mlD_77 hx hb hml hown hts hB hG hK hS (by decide) hsD22 rfl ⟨by decide, by decide⟩ rfl hl.1 rfl (Nat.le_of_ble_eq_true rfl) dD_flowRow_95 ⟨by decide, by decide⟩ (fun r16 w17 H locs hp18 hG hS => ?_)
        obtain ⟨er20, h19, hfr21⟩ := hp18
        have h22 : w17 32 = .inl (k.1, 8, .inl mo) := (hfr21 32 (by omega)).trans hsDF32
        have h23 : w17 33 = .inl (k.1, 8, .inl mf) := (hfr21 33 (by omega)).trans hsDF33
        have hfr24 : ∀ z, (z < 32 ∨ 33 < z) ∧ z ≠ 22 → w17 z = w z := fun z hz => (hfr21 z (by omega)).trans (hfr0 z hz)
        rw [er20]
        refine lb_if_eq (tgt := 103) hx hb dD_flowRow_98 (by decide) (fun h9 => absurd (by decide) h9) (fun _ => ?_)
        refine lv_iconst (v := 0) hx hb dD_flowRow_101 (by decide) ?_
        exact g_iret hQ hx hb hr hlk hG hK hS (by decide) (by decide) ⟨by first | rfl | omega | (simp_all; done) | grind, h19, ⟨h22, h23⟩, hfr24⟩ dD_flowRow_102
  · refine lv_aload_n hx hb dD_flowRow_7 rfl (lv_at hl 0 rfl) ?_
    refine g_get hx hb hts inD hown hK hG 22 (by decide) hsD22 rfl 12 (by decide) lkD_122 rfl dD_flowRow_8 ?_
    refine lv_iconst (v := 1) hx hb dD_flowRow_11 (by decide) ?_
    refine ln_isub (x := nf) (y := 1) hx hb dD_flowRow_12 (by omega) ?_
    refine lv_goto (tgt := 17) hx hb dD_flowRow_13 (by decide) ?_
    refine lv_istore_n (lv' := [(3, .int (nI (nf - 1))), (0, .ref (a 22)), (1, .int q), (2, .int f)]) hx hb dD_flowRow_17 rfl hl (by decide) rfl (fun ls hl => ?_)
    refine lv_aload_n hx hb dD_flowRow_18 rfl (lv_at hl 1 rfl) ?_
    refine g_get hx hb hts inD hown hK hG 22 (by decide) hsD22 rfl 12 (by decide) lkD_122 rfl dD_flowRow_19 ?_
    refine ln_if_le (x := nf) (tgt := 49) hx hb dD_flowRow_22 (by decide) (by omega) (fun c26 => absurd c26 (by omega)) (fun c26 => ?_)
    refine lv_iload_n hx hb dD_flowRow_25 rfl (lv_at hl 2 rfl) ?_
    refine lv_aload_n hx hb dD_flowRow_26 rfl (lv_at hl 1 rfl) ?_
    refine g_get hx hb hts inD hown hK hG 22 (by decide) hsD22 rfl 13 (by decide) lkD_38 rfl dD_flowRow_27 ?_
    refine lv_iload_n hx hb dD_flowRow_30 rfl (lv_at hl 0 rfl) ?_
    refine g_iald hx hb hK hG 32 (by decide) hsDF32 (j := nf - 1) (by omega) (by decide) dD_flowRow_31 ?_
    refine lv_icmp_le (tgt := 45) hx hb dD_flowRow_32 (by decide) (fun c27 => ?_) (fun c27 => ?_)
    · refine lv_iconst (v := 1) hx hb dD_flowRow_45 (by decide) ?_
      refine lv_goto (tgt := 50) hx hb dD_flowRow_46 (by decide) ?_
      refine lv_istore (lv' := [(4, .int 1), (3, .int (nI (nf - 1))), (0, .ref (a 22)), (1, .int q), (2, .int f)]) hx hb dD_flowRow_50 hl (by decide) rfl (fun ls hl => ?_)
      refine lv_aload_n hx hb dD_flowRow_52 rfl (lv_at hl 2 rfl) ?_
      refine lv_aload_n hx hb dD_flowRow_53 rfl (lv_at hl 2 rfl) ?_
      refine g_get hx hb hts inD hown hK hG 22 (by decide) hsD22 rfl 12 (by decide) lkD_122 rfl dD_flowRow_54 ?_
      refine lv_bipush (v := 8) hx hb dD_flowRow_57 (by decide) ?_
      refine ln_icmp_ne (x := nf) (y := 8) (tgt := 66) hx hb dD_flowRow_59 (by decide) (by omega) (by decide) (fun c28 => ?_) (fun c28 => absurd c28 (by omega))
      refine lv_iconst (v := 0) hx hb dD_flowRow_66 (by decide) ?_
      refine lv_iload_n hx hb dD_flowRow_67 rfl (lv_at hl 3 rfl) ?_
      refine lv_iconst (v := 0) hx hb dD_flowRow_68 (by decide) ?_
      refine lv_sipush (v := 10000) hx hb dD_flowRow_69 (by decide) ?_
      refine g_SiR (As := [.int q, .int 0, .int 10000]) (rest := [.int 0, .ref (a 22)]) (kD_in hA q 0 10000) calD_in cvD_in mlD_66 hx hb hml hown hts hB hG hK hS ⟨by decide, by decide⟩ rfl hl.1 rfl (Nat.le_of_ble_eq_true rfl) dD_flowRow_72 ⟨by decide, by decide⟩ (fun H locs hG hS => ?_)
      refine lb_if_eq (tgt := 88) hx hb dD_flowRow_75 (by decide) (fun c29 => ?_) (fun c29 => ?_)
      · refine lv_iconst (v := 1) hx hb dD_flowRow_88 (by decide) ?_
        refine lv_goto (tgt := 93) hx hb dD_flowRow_89 (by decide) ?_
        refine lv_iload hx hb dD_flowRow_93 (lv_at hl 0 rfl) ?_
        refine g_Vi (i := 22) (As := [.int 0, .int 1, .int 1]) (rest := []) (kD_throwing hA hsD22 0 1 1) calD_throwing cvD_throwing mlD_77 hx hb hml hown hts hB hG hK hS (by decide) hsD22 rfl ⟨by decide, by decide⟩ rfl hl.1 rfl (Nat.le_of_ble_eq_true rfl) dD_flowRow_95 ⟨by decide, by decide⟩ (fun r30 w31 H locs hp32 hG hS => ?_)
        obtain ⟨er34, h33, hfr35⟩ := hp32
        have h36 : w31 32 = .inl (k.1, 8, .inl mo) := (hfr35 32 (by omega)).trans hsDF32
        have h37 : w31 33 = .inl (k.1, 8, .inl mf) := (hfr35 33 (by omega)).trans hsDF33
        have hfr38 : ∀ z, (z < 32 ∨ 33 < z) ∧ z ≠ 22 → w31 z = w z := fun z hz => (hfr35 z (by omega)).trans (hfr0 z hz)
        rw [er34]
        refine lb_if_eq (tgt := 103) hx hb dD_flowRow_98 (by decide) (fun h9 => absurd (by decide) h9) (fun _ => ?_)
        refine lv_iconst (v := 0) hx hb dD_flowRow_101 (by decide) ?_
        exact g_iret hQ hx hb hr hlk hG hK hS (by decide) (by decide) ⟨by first | rfl | omega | (simp_all; done) | grind, h33, ⟨h36, h37⟩, hfr38⟩ dD_flowRow_102
      · refine lv_iload_n hx hb dD_flowRow_78 rfl (lv_at hl 4 rfl) ?_
        refine lv_iconst (v := 0) hx hb dD_flowRow_79 (by decide) ?_
        refine lv_ldc (v := 1000000) hx hb hown (hts _ kcD_125) dD_flowRow_80 ?_
        refine g_SiR (As := [.int f, .int 0, .int 1000000]) (rest := [.int 0, .ref (a 22)]) (kD_in hA f 0 1000000) calD_in cvD_in mlD_66 hx hb hml hown hts hB hG hK hS ⟨by decide, by decide⟩ rfl hl.1 rfl (Nat.le_of_ble_eq_true rfl) dD_flowRow_82 ⟨by decide, by decide⟩ (fun H locs hG hS => ?_)
        refine lb_if_ne (tgt := 92) hx hb dD_flowRow_85 (by decide) (fun c40 => ?_) (fun c40 => ?_)
        · exact absurd ⟨by assumption, by assumption⟩ hz
        · refine lv_iconst (v := 1) hx hb dD_flowRow_88 (by decide) ?_
          refine lv_goto (tgt := 93) hx hb dD_flowRow_89 (by decide) ?_
          refine lv_iload hx hb dD_flowRow_93 (lv_at hl 0 rfl) ?_
          refine g_Vi (i := 22) (As := [.int 0, .int 1, .int 1]) (rest := []) (kD_throwing hA hsD22 0 1 1) calD_throwing cvD_throwing mlD_77 hx hb hml hown hts hB hG hK hS (by decide) hsD22 rfl ⟨by decide, by decide⟩ rfl hl.1 rfl (Nat.le_of_ble_eq_true rfl) dD_flowRow_95 ⟨by decide, by decide⟩ (fun r41 w42 H locs hp43 hG hS => ?_)
          obtain ⟨er45, h44, hfr46⟩ := hp43
          have h47 : w42 32 = .inl (k.1, 8, .inl mo) := (hfr46 32 (by omega)).trans hsDF32
          have h48 : w42 33 = .inl (k.1, 8, .inl mf) := (hfr46 33 (by omega)).trans hsDF33
          have hfr49 : ∀ z, (z < 32 ∨ 33 < z) ∧ z ≠ 22 → w42 z = w z := fun z hz => (hfr46 z (by omega)).trans (hfr0 z hz)
          rw [er45]
          refine lb_if_eq (tgt := 103) hx hb dD_flowRow_98 (by decide) (fun h9 => absurd (by decide) h9) (fun _ => ?_)
          refine lv_iconst (v := 0) hx hb dD_flowRow_101 (by decide) ?_
          exact g_iret hQ hx hb hr hlk hG hK hS (by decide) (by decide) ⟨by first | rfl | omega | (simp_all; done) | grind, h44, ⟨h47, h48⟩, hfr49⟩ dD_flowRow_102
    · refine lv_iload_n hx hb dD_flowRow_35 rfl (lv_at hl 3 rfl) ?_
      refine lv_aload_n hx hb dD_flowRow_36 rfl (lv_at hl 1 rfl) ?_
      refine g_get hx hb hts inD hown hK hG 22 (by decide) hsD22 rfl 14 (by decide) lkD_41 rfl dD_flowRow_37 ?_
      refine lv_iload_n hx hb dD_flowRow_40 rfl (lv_at hl 0 rfl) ?_
      refine g_iald hx hb hK hG 33 (by decide) hsDF33 (j := nf - 1) (by omega) (by decide) dD_flowRow_41 ?_
      refine lv_icmp_ge (tgt := 49) hx hb dD_flowRow_42 (by decide) (fun c51 => ?_) (fun c51 => ?_)
      · refine lv_iconst (v := 0) hx hb dD_flowRow_49 (by decide) ?_
        refine lv_istore (lv' := [(4, .int 0), (3, .int (nI (nf - 1))), (0, .ref (a 22)), (1, .int q), (2, .int f)]) hx hb dD_flowRow_50 hl (by decide) rfl (fun ls hl => ?_)
        refine lv_aload_n hx hb dD_flowRow_52 rfl (lv_at hl 2 rfl) ?_
        refine lv_aload_n hx hb dD_flowRow_53 rfl (lv_at hl 2 rfl) ?_
        refine g_get hx hb hts inD hown hK hG 22 (by decide) hsD22 rfl 12 (by decide) lkD_122 rfl dD_flowRow_54 ?_
        refine lv_bipush (v := 8) hx hb dD_flowRow_57 (by decide) ?_
        refine ln_icmp_ne (x := nf) (y := 8) (tgt := 66) hx hb dD_flowRow_59 (by decide) (by omega) (by decide) (fun c52 => ?_) (fun c52 => absurd c52 (by omega))
        refine lv_iconst (v := 0) hx hb dD_flowRow_66 (by decide) ?_
        refine lv_iload_n hx hb dD_flowRow_67 rfl (lv_at hl 3 rfl) ?_
        refine lv_iconst (v := 0) hx hb dD_flowRow_68 (by decide) ?_
        refine lv_sipush (v := 10000) hx hb dD_flowRow_69 (by decide) ?_
        refine g_SiR (As := [.int q, .int 0, .int 10000]) (rest := [.int 0, .ref (a 22)]) (kD_in hA q 0 10000) calD_in cvD_in mlD_66 hx hb hml hown hts hB hG hK hS ⟨by decide, by decide⟩ rfl hl.1 rfl (Nat.le_of_ble_eq_true rfl) dD_flowRow_72 ⟨by decide, by decide⟩ (fun H locs hG hS => ?_)
        refine lb_if_eq (tgt := 88) hx hb dD_flowRow_75 (by decide) (fun c53 => ?_) (fun c53 => ?_)
        · refine lv_iconst (v := 1) hx hb dD_flowRow_88 (by decide) ?_
          refine lv_goto (tgt := 93) hx hb dD_flowRow_89 (by decide) ?_
          refine lv_iload hx hb dD_flowRow_93 (lv_at hl 0 rfl) ?_
          refine g_Vi (i := 22) (As := [.int 0, .int 1, .int 0]) (rest := []) (kD_throwing hA hsD22 0 1 0) calD_throwing cvD_throwing mlD_77 hx hb hml hown hts hB hG hK hS (by decide) hsD22 rfl ⟨by decide, by decide⟩ rfl hl.1 rfl (Nat.le_of_ble_eq_true rfl) dD_flowRow_95 ⟨by decide, by decide⟩ (fun r54 w55 H locs hp56 hG hS => ?_)
          obtain ⟨er58, h57, hfr59⟩ := hp56
          have h60 : w55 32 = .inl (k.1, 8, .inl mo) := (hfr59 32 (by omega)).trans hsDF32
          have h61 : w55 33 = .inl (k.1, 8, .inl mf) := (hfr59 33 (by omega)).trans hsDF33
          have hfr62 : ∀ z, (z < 32 ∨ 33 < z) ∧ z ≠ 22 → w55 z = w z := fun z hz => (hfr59 z (by omega)).trans (hfr0 z hz)
          rw [er58]
          refine lb_if_eq (tgt := 103) hx hb dD_flowRow_98 (by decide) (fun h9 => absurd (by decide) h9) (fun _ => ?_)
          refine lv_iconst (v := 0) hx hb dD_flowRow_101 (by decide) ?_
          exact g_iret hQ hx hb hr hlk hG hK hS (by decide) (by decide) ⟨by first | rfl | omega | (simp_all; done) | grind, h57, ⟨h60, h61⟩, hfr62⟩ dD_flowRow_102
        · refine lv_iload_n hx hb dD_flowRow_78 rfl (lv_at hl 4 rfl) ?_
          refine lv_iconst (v := 0) hx hb dD_flowRow_79 (by decide) ?_
          refine lv_ldc (v := 1000000) hx hb hown (hts _ kcD_125) dD_flowRow_80 ?_
          refine g_SiR (As := [.int f, .int 0, .int 1000000]) (rest := [.int 0, .ref (a 22)]) (kD_in hA f 0 1000000) calD_in cvD_in mlD_66 hx hb hml hown hts hB hG hK hS ⟨by decide, by decide⟩ rfl hl.1 rfl (Nat.le_of_ble_eq_true rfl) dD_flowRow_82 ⟨by decide, by decide⟩ (fun H locs hG hS => ?_)
          refine lb_if_ne (tgt := 92) hx hb dD_flowRow_85 (by decide) (fun c64 => ?_) (fun c64 => ?_)
          · exact absurd ⟨by assumption, by assumption⟩ hz
          · refine lv_iconst (v := 1) hx hb dD_flowRow_88 (by decide) ?_
            refine lv_goto (tgt := 93) hx hb dD_flowRow_89 (by decide) ?_
            refine lv_iload hx hb dD_flowRow_93 (lv_at hl 0 rfl) ?_
            refine g_Vi (i := 22) (As := [.int 0, .int 1, .int 0]) (rest := []) (kD_throwing hA hsD22 0 1 0) calD_throwing cvD_throwing mlD_77 hx hb hml hown hts hB hG hK hS (by decide) hsD22 rfl ⟨by decide, by decide⟩ rfl hl.1 rfl (Nat.le_of_ble_eq_true rfl) dD_flowRow_95 ⟨by decide, by decide⟩ (fun r65 w66 H locs hp67 hG hS => ?_)
            obtain ⟨er69, h68, hfr70⟩ := hp67
            have h71 : w66 32 = .inl (k.1, 8, .inl mo) := (hfr70 32 (by omega)).trans hsDF32
            have h72 : w66 33 = .inl (k.1, 8, .inl mf) := (hfr70 33 (by omega)).trans hsDF33
            have hfr73 : ∀ z, (z < 32 ∨ 33 < z) ∧ z ≠ 22 → w66 z = w z := fun z hz => (hfr70 z (by omega)).trans (hfr0 z hz)
            rw [er69]
            refine lb_if_eq (tgt := 103) hx hb dD_flowRow_98 (by decide) (fun h9 => absurd (by decide) h9) (fun _ => ?_)
            refine lv_iconst (v := 0) hx hb dD_flowRow_101 (by decide) ?_
            exact g_iret hQ hx hb hr hlk hG hK hS (by decide) (by decide) ⟨by first | rfl | omega | (simp_all; done) | grind, h68, ⟨h71, h72⟩, hfr73⟩ dD_flowRow_102
      · refine lv_iconst (v := 1) hx hb dD_flowRow_45 (by decide) ?_
        refine lv_goto (tgt := 50) hx hb dD_flowRow_46 (by decide) ?_
        refine lv_istore (lv' := [(4, .int 1), (3, .int (nI (nf - 1))), (0, .ref (a 22)), (1, .int q), (2, .int f)]) hx hb dD_flowRow_50 hl (by decide) rfl (fun ls hl => ?_)
        refine lv_aload_n hx hb dD_flowRow_52 rfl (lv_at hl 2 rfl) ?_
        refine lv_aload_n hx hb dD_flowRow_53 rfl (lv_at hl 2 rfl) ?_
        refine g_get hx hb hts inD hown hK hG 22 (by decide) hsD22 rfl 12 (by decide) lkD_122 rfl dD_flowRow_54 ?_
        refine lv_bipush (v := 8) hx hb dD_flowRow_57 (by decide) ?_
        refine ln_icmp_ne (x := nf) (y := 8) (tgt := 66) hx hb dD_flowRow_59 (by decide) (by omega) (by decide) (fun c75 => ?_) (fun c75 => absurd c75 (by omega))
        refine lv_iconst (v := 0) hx hb dD_flowRow_66 (by decide) ?_
        refine lv_iload_n hx hb dD_flowRow_67 rfl (lv_at hl 3 rfl) ?_
        refine lv_iconst (v := 0) hx hb dD_flowRow_68 (by decide) ?_
        refine lv_sipush (v := 10000) hx hb dD_flowRow_69 (by decide) ?_
        refine g_SiR (As := [.int q, .int 0, .int 10000]) (rest := [.int 0, .ref (a 22)]) (kD_in hA q 0 10000) calD_in cvD_in mlD_66 hx hb hml hown hts hB hG hK hS ⟨by decide, by decide⟩ rfl hl.1 rfl (Nat.le_of_ble_eq_true rfl) dD_flowRow_72 ⟨by decide, by decide⟩ (fun H locs hG hS => ?_)
        refine lb_if_eq (tgt := 88) hx hb dD_flowRow_75 (by decide) (fun c76 => ?_) (fun c76 => ?_)
        · refine lv_iconst (v := 1) hx hb dD_flowRow_88 (by decide) ?_
          refine lv_goto (tgt := 93) hx hb dD_flowRow_89 (by decide) ?_
          refine lv_iload hx hb dD_flowRow_93 (lv_at hl 0 rfl) ?_
          refine g_Vi (i := 22) (As := [.int 0, .int 1, .int 1]) (rest := []) (kD_throwing hA hsD22 0 1 1) calD_throwing cvD_throwing mlD_77 hx hb hml hown hts hB hG hK hS (by decide) hsD22 rfl ⟨by decide, by decide⟩ rfl hl.1 rfl (Nat.le_of_ble_eq_true rfl) dD_flowRow_95 ⟨by decide, by decide⟩ (fun r77 w78 H locs hp79 hG hS => ?_)
          obtain ⟨er81, h80, hfr82⟩ := hp79
          have h83 : w78 32 = .inl (k.1, 8, .inl mo) := (hfr82 32 (by omega)).trans hsDF32
          have h84 : w78 33 = .inl (k.1, 8, .inl mf) := (hfr82 33 (by omega)).trans hsDF33
          have hfr85 : ∀ z, (z < 32 ∨ 33 < z) ∧ z ≠ 22 → w78 z = w z := fun z hz => (hfr82 z (by omega)).trans (hfr0 z hz)
          rw [er81]
          refine lb_if_eq (tgt := 103) hx hb dD_flowRow_98 (by decide) (fun h9 => absurd (by decide) h9) (fun _ => ?_)
          refine lv_iconst (v := 0) hx hb dD_flowRow_101 (by decide) ?_
          exact g_iret hQ hx hb hr hlk hG hK hS (by decide) (by decide) ⟨by first | rfl | omega | (simp_all; done) | grind, h80, ⟨h83, h84⟩, hfr85⟩ dD_flowRow_102
        · refine lv_iload_n hx hb dD_flowRow_78 rfl (lv_at hl 4 rfl) ?_
          refine lv_iconst (v := 0) hx hb dD_flowRow_79 (by decide) ?_
          refine lv_ldc (v := 1000000) hx hb hown (hts _ kcD_125) dD_flowRow_80 ?_
          refine g_SiR (As := [.int f, .int 0, .int 1000000]) (rest := [.int 0, .ref (a 22)]) (kD_in hA f 0 1000000) calD_in cvD_in mlD_66 hx hb hml hown hts hB hG hK hS ⟨by decide, by decide⟩ rfl hl.1 rfl (Nat.le_of_ble_eq_true rfl) dD_flowRow_82 ⟨by decide, by decide⟩ (fun H locs hG hS => ?_)
          refine lb_if_ne (tgt := 92) hx hb dD_flowRow_85 (by decide) (fun c87 => ?_) (fun c87 => ?_)
          · exact absurd ⟨by assumption, by assumption⟩ hz
          · refine lv_iconst (v := 1) hx hb dD_flowRow_88 (by decide) ?_
            refine lv_goto (tgt := 93) hx hb dD_flowRow_89 (by decide) ?_
            refine lv_iload hx hb dD_flowRow_93 (lv_at hl 0 rfl) ?_
            refine g_Vi (i := 22) (As := [.int 0, .int 1, .int 1]) (rest := []) (kD_throwing hA hsD22 0 1 1) calD_throwing cvD_throwing mlD_77 hx hb hml hown hts hB hG hK hS (by decide) hsD22 rfl ⟨by decide, by decide⟩ rfl hl.1 rfl (Nat.le_of_ble_eq_true rfl) dD_flowRow_95 ⟨by decide, by decide⟩ (fun r88 w89 H locs hp90 hG hS => ?_)
            obtain ⟨er92, h91, hfr93⟩ := hp90
            have h94 : w89 32 = .inl (k.1, 8, .inl mo) := (hfr93 32 (by omega)).trans hsDF32
            have h95 : w89 33 = .inl (k.1, 8, .inl mf) := (hfr93 33 (by omega)).trans hsDF33
            have hfr96 : ∀ z, (z < 32 ∨ 33 < z) ∧ z ≠ 22 → w89 z = w z := fun z hz => (hfr93 z (by omega)).trans (hfr0 z hz)
            rw [er92]
            refine lb_if_eq (tgt := 103) hx hb dD_flowRow_98 (by decide) (fun h9 => absurd (by decide) h9) (fun _ => ?_)
            refine lv_iconst (v := 0) hx hb dD_flowRow_101 (by decide) ?_
            exact g_iret hQ hx hb hr hlk hG hK hS (by decide) (by decide) ⟨by first | rfl | omega | (simp_all; done) | grind, h91, ⟨h94, h95⟩, hfr96⟩ dD_flowRow_102

abbrev rmD_flowRow_m : Room := { frames := 1, cells := 0, slots := 0, locals := 23 }
set_option maxRecDepth 100000 in
set_option maxHeartbeats 4000000 in
theorem kD_flowRow_m {l : Launch} {D : va_G} {k : ClassId × ClassId × ClassId} {a : Nat → Nat} {B0 : Nat} {w : Nat → va_E} (hA : gA B0 a) {th : Int32} {n : Nat} {nr : Nat} {nf : Nat} {bw : Int32} {bd : Int32} {nt : Nat} {mo : Nat → Int32} {mf : Nat → Int32} (hsD : sD k a w th n nr nf bw bd nt) (hsDF : sDF k a w mo mf) (q : Int32) (f : Int32) (hn : nf < 8) (h1 : rngI q 0 10000) (h2 : rngI f 0 1000000) (hm : ¬ (nf = 0 ∨ (¬ q ≤ mo (nf - 1) ∧ ¬ f < mf (nf - 1)))) : Met l yD_flowRow (tbw yD_flowRow cD_flowRow 5 (some .int)) rmD_flowRow_m (gPc D k a B0 w [.ref (a 22), .int q, .int f]) (va_Qi (fun rr9 w1 => rr9 = 0 ∧ (sD k a w1 3 n nr nf bw bd nt) ∧ (sDF k a w1 mo mf) ∧ ∀ z, (z < 32 ∨ 33 < z) ∧ z ≠ 22 → w1 z = w z) (gB D k a) (gF B0)) 0 0 (gF B0) := by
  have hsD22 := hsD
  obtain ⟨hsDF32, hsDF33⟩ := hsDF
  refine g_ofW (by decide) rfl (fun p e s m args below meth c Q hQ hx hb hr hlk hml hown hts hB hG hK hS ls hl => ?_)
  have hl : lv_has ls 5 [(0, .ref (a 22)), (1, .int q), (2, .int f)] := hl
  have hown : s.vm.findClass RD = some m.cls := hown
  have hfr0 : ∀ z, (z < 32 ∨ 33 < z) ∧ z ≠ 22 → w z = w z := fun _ _ => rfl
  have h0 : 0 < nf := by rcases Nat.eq_zero_or_pos nf with e | e; exact absurd (Or.inl e) hm; exact e
  refine lv_aload_n hx hb dD_flowRow_0 rfl (lv_at hl 0 rfl) ?_
  refine g_get hx hb hts inD hown hK hG 22 (by decide) hsD22 rfl 12 (by decide) lkD_122 rfl dD_flowRow_1 ?_
  refine ln_if_le (x := nf) (tgt := 16) hx hb dD_flowRow_4 (by decide) (by omega) (fun c1 => absurd c1 (by omega)) (fun c1 => ?_)
  refine lv_aload_n hx hb dD_flowRow_7 rfl (lv_at hl 0 rfl) ?_
  refine g_get hx hb hts inD hown hK hG 22 (by decide) hsD22 rfl 12 (by decide) lkD_122 rfl dD_flowRow_8 ?_
  refine lv_iconst (v := 1) hx hb dD_flowRow_11 (by decide) ?_
  refine ln_isub (x := nf) (y := 1) hx hb dD_flowRow_12 (by omega) ?_
  refine lv_goto (tgt := 17) hx hb dD_flowRow_13 (by decide) ?_
  refine lv_istore_n (lv' := [(3, .int (nI (nf - 1))), (0, .ref (a 22)), (1, .int q), (2, .int f)]) hx hb dD_flowRow_17 rfl hl (by decide) rfl (fun ls hl => ?_)
  refine lv_aload_n hx hb dD_flowRow_18 rfl (lv_at hl 1 rfl) ?_
  refine g_get hx hb hts inD hown hK hG 22 (by decide) hsD22 rfl 12 (by decide) lkD_122 rfl dD_flowRow_19 ?_
  refine ln_if_le (x := nf) (tgt := 49) hx hb dD_flowRow_22 (by decide) (by omega) (fun c2 => absurd c2 (by omega)) (fun c2 => ?_)
  refine lv_iload_n hx hb dD_flowRow_25 rfl (lv_at hl 2 rfl) ?_
  refine lv_aload_n hx hb dD_flowRow_26 rfl (lv_at hl 1 rfl) ?_
  refine g_get hx hb hts inD hown hK hG 22 (by decide) hsD22 rfl 13 (by decide) lkD_38 rfl dD_flowRow_27 ?_
  refine lv_iload_n hx hb dD_flowRow_30 rfl (lv_at hl 0 rfl) ?_
  refine g_iald hx hb hK hG 32 (by decide) hsDF32 (j := nf - 1) (by omega) (by decide) dD_flowRow_31 ?_
  refine lv_icmp_le (tgt := 45) hx hb dD_flowRow_32 (by decide) (fun c3 => ?_) (fun c3 => ?_)
  · refine lv_iconst (v := 1) hx hb dD_flowRow_45 (by decide) ?_
    refine lv_goto (tgt := 50) hx hb dD_flowRow_46 (by decide) ?_
    refine lv_istore (lv' := [(4, .int 1), (3, .int (nI (nf - 1))), (0, .ref (a 22)), (1, .int q), (2, .int f)]) hx hb dD_flowRow_50 hl (by decide) rfl (fun ls hl => ?_)
    refine lv_aload_n hx hb dD_flowRow_52 rfl (lv_at hl 2 rfl) ?_
    refine lv_aload_n hx hb dD_flowRow_53 rfl (lv_at hl 2 rfl) ?_
    refine g_get hx hb hts inD hown hK hG 22 (by decide) hsD22 rfl 12 (by decide) lkD_122 rfl dD_flowRow_54 ?_
    refine lv_bipush (v := 8) hx hb dD_flowRow_57 (by decide) ?_
    refine ln_icmp_ne (x := nf) (y := 8) (tgt := 66) hx hb dD_flowRow_59 (by decide) (by omega) (by decide) (fun c4 => ?_) (fun c4 => absurd c4 (by omega))
    refine lv_iconst (v := 0) hx hb dD_flowRow_66 (by decide) ?_
    refine lv_iload_n hx hb dD_flowRow_67 rfl (lv_at hl 3 rfl) ?_
    refine lv_iconst (v := 0) hx hb dD_flowRow_68 (by decide) ?_
    refine lv_sipush (v := 10000) hx hb dD_flowRow_69 (by decide) ?_
    refine g_SiR (As := [.int q, .int 0, .int 10000]) (rest := [.int 0, .ref (a 22)]) (kD_in hA q 0 10000) calD_in cvD_in mlD_66 hx hb hml hown hts hB hG hK hS ⟨by decide, by decide⟩ rfl hl.1 rfl (Nat.le_of_ble_eq_true rfl) dD_flowRow_72 ⟨by decide, by decide⟩ (fun H locs hG hS => ?_)
    refine lb_if_eq (tgt := 88) hx hb dD_flowRow_75 (by decide) (fun h9 => absurd h1 h9) (fun _ => ?_)
    refine lv_iload_n hx hb dD_flowRow_78 rfl (lv_at hl 4 rfl) ?_
    refine lv_iconst (v := 0) hx hb dD_flowRow_79 (by decide) ?_
    refine lv_ldc (v := 1000000) hx hb hown (hts _ kcD_125) dD_flowRow_80 ?_
    refine g_SiR (As := [.int f, .int 0, .int 1000000]) (rest := [.int 0, .ref (a 22)]) (kD_in hA f 0 1000000) calD_in cvD_in mlD_66 hx hb hml hown hts hB hG hK hS ⟨by decide, by decide⟩ rfl hl.1 rfl (Nat.le_of_ble_eq_true rfl) dD_flowRow_82 ⟨by decide, by decide⟩ (fun H locs hG hS => ?_)
    refine lb_if_ne (tgt := 92) hx hb dD_flowRow_85 (by decide) (fun _ => ?_) (fun h9 => absurd h2 h9)
    refine lv_iconst (v := 0) hx hb dD_flowRow_92 (by decide) ?_
    refine lv_iload hx hb dD_flowRow_93 (lv_at hl 0 rfl) ?_
    refine g_Vi (i := 22) (As := [.int 0, .int 0, .int 1]) (rest := []) (kD_throwing hA hsD22 0 0 1) calD_throwing cvD_throwing mlD_77 hx hb hml hown hts hB hG hK hS (by decide) hsD22 rfl ⟨by decide, by decide⟩ rfl hl.1 rfl (Nat.le_of_ble_eq_true rfl) dD_flowRow_95 ⟨by decide, by decide⟩ (fun r7 w8 H locs hp9 hG hS => ?_)
    obtain ⟨er11, h10, hfr12⟩ := hp9
    have h13 : w8 32 = .inl (k.1, 8, .inl mo) := (hfr12 32 (by omega)).trans hsDF32
    have h14 : w8 33 = .inl (k.1, 8, .inl mf) := (hfr12 33 (by omega)).trans hsDF33
    have hfr15 : ∀ z, (z < 32 ∨ 33 < z) ∧ z ≠ 22 → w8 z = w z := fun z hz => (hfr12 z (by omega)).trans (hfr0 z hz)
    rw [er11]
    refine lb_if_eq (tgt := 103) hx hb dD_flowRow_98 (by decide) (fun h9 => absurd (by decide) h9) (fun _ => ?_)
    refine lv_iconst (v := 0) hx hb dD_flowRow_101 (by decide) ?_
    exact g_iret hQ hx hb hr hlk hG hK hS (by decide) (by decide) ⟨by first | rfl | omega | (simp_all; done) | grind, h10, ⟨h13, h14⟩, hfr15⟩ dD_flowRow_102
  · refine lv_iload_n hx hb dD_flowRow_35 rfl (lv_at hl 3 rfl) ?_
    refine lv_aload_n hx hb dD_flowRow_36 rfl (lv_at hl 1 rfl) ?_
    refine g_get hx hb hts inD hown hK hG 22 (by decide) hsD22 rfl 14 (by decide) lkD_41 rfl dD_flowRow_37 ?_
    refine lv_iload_n hx hb dD_flowRow_40 rfl (lv_at hl 0 rfl) ?_
    refine g_iald hx hb hK hG 33 (by decide) hsDF33 (j := nf - 1) (by omega) (by decide) dD_flowRow_41 ?_
    refine lv_icmp_ge (tgt := 49) hx hb dD_flowRow_42 (by decide) (fun c17 => (absurd (Or.inr ⟨by assumption, Int32.not_lt.mpr c17⟩) hm)) (fun c17 => ?_)
    refine lv_iconst (v := 1) hx hb dD_flowRow_45 (by decide) ?_
    refine lv_goto (tgt := 50) hx hb dD_flowRow_46 (by decide) ?_
    refine lv_istore (lv' := [(4, .int 1), (3, .int (nI (nf - 1))), (0, .ref (a 22)), (1, .int q), (2, .int f)]) hx hb dD_flowRow_50 hl (by decide) rfl (fun ls hl => ?_)
    refine lv_aload_n hx hb dD_flowRow_52 rfl (lv_at hl 2 rfl) ?_
    refine lv_aload_n hx hb dD_flowRow_53 rfl (lv_at hl 2 rfl) ?_
    refine g_get hx hb hts inD hown hK hG 22 (by decide) hsD22 rfl 12 (by decide) lkD_122 rfl dD_flowRow_54 ?_
    refine lv_bipush (v := 8) hx hb dD_flowRow_57 (by decide) ?_
    refine ln_icmp_ne (x := nf) (y := 8) (tgt := 66) hx hb dD_flowRow_59 (by decide) (by omega) (by decide) (fun c18 => ?_) (fun c18 => absurd c18 (by omega))
    refine lv_iconst (v := 0) hx hb dD_flowRow_66 (by decide) ?_
    refine lv_iload_n hx hb dD_flowRow_67 rfl (lv_at hl 3 rfl) ?_
    refine lv_iconst (v := 0) hx hb dD_flowRow_68 (by decide) ?_
    refine lv_sipush (v := 10000) hx hb dD_flowRow_69 (by decide) ?_
    refine g_SiR (As := [.int q, .int 0, .int 10000]) (rest := [.int 0, .ref (a 22)]) (kD_in hA q 0 10000) calD_in cvD_in mlD_66 hx hb hml hown hts hB hG hK hS ⟨by decide, by decide⟩ rfl hl.1 rfl (Nat.le_of_ble_eq_true rfl) dD_flowRow_72 ⟨by decide, by decide⟩ (fun H locs hG hS => ?_)
    refine lb_if_eq (tgt := 88) hx hb dD_flowRow_75 (by decide) (fun h9 => absurd h1 h9) (fun _ => ?_)
    refine lv_iload_n hx hb dD_flowRow_78 rfl (lv_at hl 4 rfl) ?_
    refine lv_iconst (v := 0) hx hb dD_flowRow_79 (by decide) ?_
    refine lv_ldc (v := 1000000) hx hb hown (hts _ kcD_125) dD_flowRow_80 ?_
    refine g_SiR (As := [.int f, .int 0, .int 1000000]) (rest := [.int 0, .ref (a 22)]) (kD_in hA f 0 1000000) calD_in cvD_in mlD_66 hx hb hml hown hts hB hG hK hS ⟨by decide, by decide⟩ rfl hl.1 rfl (Nat.le_of_ble_eq_true rfl) dD_flowRow_82 ⟨by decide, by decide⟩ (fun H locs hG hS => ?_)
    refine lb_if_ne (tgt := 92) hx hb dD_flowRow_85 (by decide) (fun _ => ?_) (fun h9 => absurd h2 h9)
    refine lv_iconst (v := 0) hx hb dD_flowRow_92 (by decide) ?_
    refine lv_iload hx hb dD_flowRow_93 (lv_at hl 0 rfl) ?_
    refine g_Vi (i := 22) (As := [.int 0, .int 0, .int 1]) (rest := []) (kD_throwing hA hsD22 0 0 1) calD_throwing cvD_throwing mlD_77 hx hb hml hown hts hB hG hK hS (by decide) hsD22 rfl ⟨by decide, by decide⟩ rfl hl.1 rfl (Nat.le_of_ble_eq_true rfl) dD_flowRow_95 ⟨by decide, by decide⟩ (fun r21 w22 H locs hp23 hG hS => ?_)
    obtain ⟨er25, h24, hfr26⟩ := hp23
    have h27 : w22 32 = .inl (k.1, 8, .inl mo) := (hfr26 32 (by omega)).trans hsDF32
    have h28 : w22 33 = .inl (k.1, 8, .inl mf) := (hfr26 33 (by omega)).trans hsDF33
    have hfr29 : ∀ z, (z < 32 ∨ 33 < z) ∧ z ≠ 22 → w22 z = w z := fun z hz => (hfr26 z (by omega)).trans (hfr0 z hz)
    rw [er25]
    refine lb_if_eq (tgt := 103) hx hb dD_flowRow_98 (by decide) (fun h9 => absurd (by decide) h9) (fun _ => ?_)
    refine lv_iconst (v := 0) hx hb dD_flowRow_101 (by decide) ?_
    exact g_iret hQ hx hb hr hlk hG hK hS (by decide) (by decide) ⟨by first | rfl | omega | (simp_all; done) | grind, h24, ⟨h27, h28⟩, hfr29⟩ dD_flowRow_102

abbrev rmD_flow_f : Room := { frames := 1, cells := 0, slots := 0, locals := 24 }
set_option maxRecDepth 100000 in
set_option maxHeartbeats 4000000 in
theorem kD_flow_f {l : Launch} {D : va_G} {k : ClassId × ClassId × ClassId} {a : Nat → Nat} {B0 : Nat} {w : Nat → va_E} (hA : gA B0 a) {th : Int32} {n : Nat} {nr : Nat} {nf : Nat} {bw : Int32} {bd : Int32} {nt : Nat} {mo : Nat → Int32} {mf : Nat → Int32} (hsD : sD k a w th n nr nf bw bd nt) (hsDF : sDF k a w mo mf) (q : Int32) (h0 : nf = 0) : Met l yD_flow (tbw yD_flow cD_flow 2 (some .int)) rmD_flow_f (gPc D k a B0 w [.ref (a 22), .int q]) (va_Qi (fun rr9 w1 => rr9 = 0 ∧ (sD k a w1 1 n nr nf bw bd nt) ∧ (sDF k a w1 mo mf) ∧ ∀ z, (z < 32 ∨ 33 < z) ∧ z ≠ 22 → w1 z = w z) (gB D k a) (gF B0)) 0 0 (gF B0) := by
  have hsD22 := hsD
  obtain ⟨hsDF32, hsDF33⟩ := hsDF
  refine g_ofW (by decide) rfl (fun p e s m args below meth c Q hQ hx hb hr hlk hml hown hts hB hG hK hS ls hl => ?_)
  have hl : lv_has ls 2 [(0, .ref (a 22)), (1, .int q)] := hl
  have hown : s.vm.findClass RD = some m.cls := hown
  have hfr0 : ∀ z, (z < 32 ∨ 33 < z) ∧ z ≠ 22 → w z = w z := fun _ _ => rfl
  refine lv_aload_n hx hb dD_flow_0 rfl (lv_at hl 0 rfl) ?_
  refine lv_aload_n hx hb dD_flow_1 rfl (lv_at hl 0 rfl) ?_
  refine g_get hx hb hts inD hown hK hG 22 (by decide) hsD22 rfl 12 (by decide) lkD_122 rfl dD_flow_2 ?_
  refine ln_if_ne (x := nf) (tgt := 12) hx hb dD_flow_5 (by decide) (by omega) (fun c1 => absurd c1 (by omega)) (fun c1 => ?_)
  refine lv_iconst (v := 1) hx hb dD_flow_8 (by decide) ?_
  refine lv_goto (tgt := 13) hx hb dD_flow_9 (by decide) ?_
  refine lv_iload_n hx hb dD_flow_13 rfl (lv_at hl 1 rfl) ?_
  refine lv_iconst (v := 0) hx hb dD_flow_14 (by decide) ?_
  refine lv_sipush (v := 10000) hx hb dD_flow_15 (by decide) ?_
  refine g_SiR (As := [.int q, .int 0, .int 10000]) (rest := [.int 1, .ref (a 22)]) (kD_in hA q 0 10000) calD_in cvD_in mlD_66 hx hb hml hown hts hB hG hK hS ⟨by decide, by decide⟩ rfl hl.1 rfl (Nat.le_of_ble_eq_true rfl) dD_flow_18 ⟨by decide, by decide⟩ (fun H locs hG hS => ?_)
  refine lb_if_ne (tgt := 28) hx hb dD_flow_21 (by decide) (fun c2 => ?_) (fun c2 => ?_)
  · refine lv_iconst (v := 0) hx hb dD_flow_28 (by decide) ?_
    refine lv_iconst (v := 0) hx hb dD_flow_29 (by decide) ?_
    refine g_Vi (i := 22) (As := [.int 1, .int 0, .int 0]) (rest := []) (kD_throwing hA hsD22 1 0 0) calD_throwing cvD_throwing mlD_77 hx hb hml hown hts hB hG hK hS (by decide) hsD22 rfl ⟨by decide, by decide⟩ rfl hl.1 rfl (Nat.le_of_ble_eq_true rfl) dD_flow_30 ⟨by decide, by decide⟩ (fun r3 w4 H locs hp5 hG hS => ?_)
    obtain ⟨er7, h6, hfr8⟩ := hp5
    have h9 : w4 32 = .inl (k.1, 8, .inl mo) := (hfr8 32 (by omega)).trans hsDF32
    have h10 : w4 33 = .inl (k.1, 8, .inl mf) := (hfr8 33 (by omega)).trans hsDF33
    have hfr11 : ∀ z, (z < 32 ∨ 33 < z) ∧ z ≠ 22 → w4 z = w z := fun z hz => (hfr8 z (by omega)).trans (hfr0 z hz)
    rw [er7]
    refine lb_if_eq (tgt := 38) hx hb dD_flow_33 (by decide) (fun h9 => absurd (by decide) h9) (fun _ => ?_)
    refine lv_iconst (v := 0) hx hb dD_flow_36 (by decide) ?_
    exact g_iret hQ hx hb hr hlk hG hK hS (by decide) (by decide) ⟨by first | rfl | omega | (simp_all; done) | grind, h6, ⟨h9, h10⟩, hfr11⟩ dD_flow_37
  · refine lv_iconst (v := 1) hx hb dD_flow_24 (by decide) ?_
    refine lv_goto (tgt := 29) hx hb dD_flow_25 (by decide) ?_
    refine lv_iconst (v := 0) hx hb dD_flow_29 (by decide) ?_
    refine g_Vi (i := 22) (As := [.int 1, .int 1, .int 0]) (rest := []) (kD_throwing hA hsD22 1 1 0) calD_throwing cvD_throwing mlD_77 hx hb hml hown hts hB hG hK hS (by decide) hsD22 rfl ⟨by decide, by decide⟩ rfl hl.1 rfl (Nat.le_of_ble_eq_true rfl) dD_flow_30 ⟨by decide, by decide⟩ (fun r13 w14 H locs hp15 hG hS => ?_)
    obtain ⟨er17, h16, hfr18⟩ := hp15
    have h19 : w14 32 = .inl (k.1, 8, .inl mo) := (hfr18 32 (by omega)).trans hsDF32
    have h20 : w14 33 = .inl (k.1, 8, .inl mf) := (hfr18 33 (by omega)).trans hsDF33
    have hfr21 : ∀ z, (z < 32 ∨ 33 < z) ∧ z ≠ 22 → w14 z = w z := fun z hz => (hfr18 z (by omega)).trans (hfr0 z hz)
    rw [er17]
    refine lb_if_eq (tgt := 38) hx hb dD_flow_33 (by decide) (fun h9 => absurd (by decide) h9) (fun _ => ?_)
    refine lv_iconst (v := 0) hx hb dD_flow_36 (by decide) ?_
    exact g_iret hQ hx hb hr hlk hG hK hS (by decide) (by decide) ⟨by first | rfl | omega | (simp_all; done) | grind, h16, ⟨h19, h20⟩, hfr21⟩ dD_flow_37

abbrev rmD_flow_z : Room := { frames := 1, cells := 0, slots := 0, locals := 24 }
set_option maxRecDepth 100000 in
set_option maxHeartbeats 4000000 in
theorem kD_flow_z {l : Launch} {D : va_G} {k : ClassId × ClassId × ClassId} {a : Nat → Nat} {B0 : Nat} {w : Nat → va_E} (hA : gA B0 a) {th : Int32} {n : Nat} {nr : Nat} {nf : Nat} {bw : Int32} {bd : Int32} {nt : Nat} {mo : Nat → Int32} {mf : Nat → Int32} (hsD : sD k a w th n nr nf bw bd nt) (hsDF : sDF k a w mo mf) (q : Int32) (h0 : 0 < nf) (hn : nf ≤ 8) (h1 : ¬ rngI q 0 10000) : Met l yD_flow (tbw yD_flow cD_flow 2 (some .int)) rmD_flow_z (gPc D k a B0 w [.ref (a 22), .int q]) (va_Qi (fun rr9 w1 => rr9 = 0 ∧ (sD k a w1 2 n nr nf bw bd nt) ∧ (sDF k a w1 mo mf) ∧ ∀ z, (z < 32 ∨ 33 < z) ∧ z ≠ 22 → w1 z = w z) (gB D k a) (gF B0)) 0 0 (gF B0) := by
  have hsD22 := hsD
  obtain ⟨hsDF32, hsDF33⟩ := hsDF
  refine g_ofW (by decide) rfl (fun p e s m args below meth c Q hQ hx hb hr hlk hml hown hts hB hG hK hS ls hl => ?_)
  have hl : lv_has ls 2 [(0, .ref (a 22)), (1, .int q)] := hl
  have hown : s.vm.findClass RD = some m.cls := hown
  have hfr0 : ∀ z, (z < 32 ∨ 33 < z) ∧ z ≠ 22 → w z = w z := fun _ _ => rfl
  refine lv_aload_n hx hb dD_flow_0 rfl (lv_at hl 0 rfl) ?_
  refine lv_aload_n hx hb dD_flow_1 rfl (lv_at hl 0 rfl) ?_
  refine g_get hx hb hts inD hown hK hG 22 (by decide) hsD22 rfl 12 (by decide) lkD_122 rfl dD_flow_2 ?_
  refine ln_if_ne (x := nf) (tgt := 12) hx hb dD_flow_5 (by decide) (by omega) (fun c1 => ?_) (fun c1 => absurd c1 (by omega))
  refine lv_iconst (v := 0) hx hb dD_flow_12 (by decide) ?_
  refine lv_iload_n hx hb dD_flow_13 rfl (lv_at hl 1 rfl) ?_
  refine lv_iconst (v := 0) hx hb dD_flow_14 (by decide) ?_
  refine lv_sipush (v := 10000) hx hb dD_flow_15 (by decide) ?_
  refine g_SiR (As := [.int q, .int 0, .int 10000]) (rest := [.int 0, .ref (a 22)]) (kD_in hA q 0 10000) calD_in cvD_in mlD_66 hx hb hml hown hts hB hG hK hS ⟨by decide, by decide⟩ rfl hl.1 rfl (Nat.le_of_ble_eq_true rfl) dD_flow_18 ⟨by decide, by decide⟩ (fun H locs hG hS => ?_)
  refine lb_if_ne (tgt := 28) hx hb dD_flow_21 (by decide) (fun h9 => absurd h9 h1) (fun _ => ?_)
  refine lv_iconst (v := 1) hx hb dD_flow_24 (by decide) ?_
  refine lv_goto (tgt := 29) hx hb dD_flow_25 (by decide) ?_
  refine lv_iconst (v := 0) hx hb dD_flow_29 (by decide) ?_
  refine g_Vi (i := 22) (As := [.int 0, .int 1, .int 0]) (rest := []) (kD_throwing hA hsD22 0 1 0) calD_throwing cvD_throwing mlD_77 hx hb hml hown hts hB hG hK hS (by decide) hsD22 rfl ⟨by decide, by decide⟩ rfl hl.1 rfl (Nat.le_of_ble_eq_true rfl) dD_flow_30 ⟨by decide, by decide⟩ (fun r3 w4 H locs hp5 hG hS => ?_)
  obtain ⟨er7, h6, hfr8⟩ := hp5
  have h9 : w4 32 = .inl (k.1, 8, .inl mo) := (hfr8 32 (by omega)).trans hsDF32
  have h10 : w4 33 = .inl (k.1, 8, .inl mf) := (hfr8 33 (by omega)).trans hsDF33
  have hfr11 : ∀ z, (z < 32 ∨ 33 < z) ∧ z ≠ 22 → w4 z = w z := fun z hz => (hfr8 z (by omega)).trans (hfr0 z hz)
  rw [er7]
  refine lb_if_eq (tgt := 38) hx hb dD_flow_33 (by decide) (fun h9 => absurd (by decide) h9) (fun _ => ?_)
  refine lv_iconst (v := 0) hx hb dD_flow_36 (by decide) ?_
  exact g_iret hQ hx hb hr hlk hG hK hS (by decide) (by decide) ⟨by first | rfl | omega | (simp_all; done) | grind, h6, ⟨h9, h10⟩, hfr11⟩ dD_flow_37

abbrev rmD_flow_k : Room := { frames := 1, cells := 0, slots := 0, locals := 24 }
set_option maxRecDepth 100000 in
set_option maxHeartbeats 4000000 in
theorem kD_flow_k {l : Launch} {D : va_G} {k : ClassId × ClassId × ClassId} {a : Nat → Nat} {B0 : Nat} {w : Nat → va_E} (hA : gA B0 a) {th : Int32} {n : Nat} {nr : Nat} {nf : Nat} {bw : Int32} {bd : Int32} {nt : Nat} {mo : Nat → Int32} {mf : Nat → Int32} (hsD : sD k a w th n nr nf bw bd nt) (hsDF : sDF k a w mo mf) (q : Int32) (h0 : 0 < nf) (hn : nf ≤ 8) (h1 : rngI q 0 10000) : Met l yD_flow (tbw yD_flow cD_flow 2 (some .int)) rmD_flow_k (gPc D k a B0 w [.ref (a 22), .int q]) (va_Qi (fun rr9 w1 => rr9 = (mFl mo mf nf q) ∧ (sD k a w1 0 n nr nf bw bd nt) ∧ (sDF k a w1 mo mf) ∧ ∀ z, (z < 32 ∨ 33 < z) ∧ z ≠ 22 → w1 z = w z) (gB D k a) (gF B0)) 0 0 (gF B0) := by
  have hsD22 := hsD
  obtain ⟨hsDF32, hsDF33⟩ := hsDF
  refine g_ofW (by decide) rfl (fun p e s m args below meth c Q hQ hx hb hr hlk hml hown hts hB hG hK hS ls hl => ?_)
  have hl : lv_has ls 2 [(0, .ref (a 22)), (1, .int q)] := hl
  have hown : s.vm.findClass RD = some m.cls := hown
  have hfr0 : ∀ z, (z < 32 ∨ 33 < z) ∧ z ≠ 22 → w z = w z := fun _ _ => rfl
  refine lv_aload_n hx hb dD_flow_0 rfl (lv_at hl 0 rfl) ?_
  refine lv_aload_n hx hb dD_flow_1 rfl (lv_at hl 0 rfl) ?_
  refine g_get hx hb hts inD hown hK hG 22 (by decide) hsD22 rfl 12 (by decide) lkD_122 rfl dD_flow_2 ?_
  refine ln_if_ne (x := nf) (tgt := 12) hx hb dD_flow_5 (by decide) (by omega) (fun c1 => ?_) (fun c1 => absurd c1 (by omega))
  refine lv_iconst (v := 0) hx hb dD_flow_12 (by decide) ?_
  refine lv_iload_n hx hb dD_flow_13 rfl (lv_at hl 1 rfl) ?_
  refine lv_iconst (v := 0) hx hb dD_flow_14 (by decide) ?_
  refine lv_sipush (v := 10000) hx hb dD_flow_15 (by decide) ?_
  refine g_SiR (As := [.int q, .int 0, .int 10000]) (rest := [.int 0, .ref (a 22)]) (kD_in hA q 0 10000) calD_in cvD_in mlD_66 hx hb hml hown hts hB hG hK hS ⟨by decide, by decide⟩ rfl hl.1 rfl (Nat.le_of_ble_eq_true rfl) dD_flow_18 ⟨by decide, by decide⟩ (fun H locs hG hS => ?_)
  refine lb_if_ne (tgt := 28) hx hb dD_flow_21 (by decide) (fun _ => ?_) (fun h9 => absurd h1 h9)
  refine lv_iconst (v := 0) hx hb dD_flow_28 (by decide) ?_
  refine lv_iconst (v := 0) hx hb dD_flow_29 (by decide) ?_
  refine g_Vi (i := 22) (As := [.int 0, .int 0, .int 0]) (rest := []) (kD_throwing hA hsD22 0 0 0) calD_throwing cvD_throwing mlD_77 hx hb hml hown hts hB hG hK hS (by decide) hsD22 rfl ⟨by decide, by decide⟩ rfl hl.1 rfl (Nat.le_of_ble_eq_true rfl) dD_flow_30 ⟨by decide, by decide⟩ (fun r3 w4 H locs hp5 hG hS => ?_)
  obtain ⟨er7, h6, hfr8⟩ := hp5
  have h9 : w4 32 = .inl (k.1, 8, .inl mo) := (hfr8 32 (by omega)).trans hsDF32
  have h10 : w4 33 = .inl (k.1, 8, .inl mf) := (hfr8 33 (by omega)).trans hsDF33
  have hfr11 : ∀ z, (z < 32 ∨ 33 < z) ∧ z ≠ 22 → w4 z = w z := fun z hz => (hfr8 z (by omega)).trans (hfr0 z hz)
  rw [er7]
  refine lb_if_eq (tgt := 38) hx hb dD_flow_33 (by decide) (fun _ => ?_) (fun h9 => absurd h9 (by decide))
  refine lv_aload_n hx hb dD_flow_38 rfl (lv_at hl 0 rfl) ?_
  refine lv_iload_n hx hb dD_flow_39 rfl (lv_at hl 1 rfl) ?_
  refine g_ViR (i := 22) (As := [.int q]) (rest := []) (kD_flowAt hA h6 ⟨h9, h10⟩ q (by omega) (by omega)) calD_flowAt cvD_flowAt mlD_126 hx hb hml hown hts hB hG hK hS (by decide) h6 rfl ⟨by decide, by decide⟩ rfl hl.1 rfl (Nat.le_of_ble_eq_true rfl) dD_flow_40 ⟨by decide, by decide⟩ (fun H locs hG hS => ?_)
  exact g_iret hQ hx hb hr hlk hG hK hS (by decide) (by decide) ⟨by first | rfl | omega | (simp_all; done) | grind, h6, ⟨h9, h10⟩, hfr11⟩ dD_flow_43

abbrev rmD_gate_f : Room := { frames := 1, cells := 0, slots := 0, locals := 24 }
set_option maxRecDepth 100000 in
set_option maxHeartbeats 4000000 in
theorem kD_gate_f {l : Launch} {D : va_G} {k : ClassId × ClassId × ClassId} {a : Nat → Nat} {B0 : Nat} {w : Nat → va_E} (hA : gA B0 a) {th : Int32} {n : Nat} {nr : Nat} {nf : Nat} {bw : Int32} {bd : Int32} {nt : Nat} {mo : Nat → Int32} {mf : Nat → Int32} (hsD : sD k a w th n nr nf bw bd nt) (hsDF : sDF k a w mo mf) (q : Int32) (h0 : nf = 0) : Met l yD_gate (tbw yD_gate cD_gate 7 (some .int)) rmD_gate_f (gPc D k a B0 w [.ref (a 22), .int q]) (va_Qi (fun rr9 w1 => rr9 = 0 ∧ (sD k a w1 1 n nr nf bw bd nt) ∧ (sDF k a w1 mo mf) ∧ ∀ z, (z < 32 ∨ 33 < z) ∧ z ≠ 22 → w1 z = w z) (gB D k a) (gF B0)) 0 0 (gF B0) := by
  have hsD22 := hsD
  obtain ⟨hsDF32, hsDF33⟩ := hsDF
  refine g_ofW (by decide) rfl (fun p e s m args below meth c Q hQ hx hb hr hlk hml hown hts hB hG hK hS ls hl => ?_)
  have hl : lv_has ls 7 [(0, .ref (a 22)), (1, .int q)] := hl
  have hown : s.vm.findClass RD = some m.cls := hown
  have hfr0 : ∀ z, (z < 32 ∨ 33 < z) ∧ z ≠ 22 → w z = w z := fun _ _ => rfl
  refine lv_iload_n hx hb dD_gate_0 rfl (lv_at hl 1 rfl) ?_
  refine lv_iconst (v := 0) hx hb dD_gate_1 (by decide) ?_
  refine lv_ldc (v := 1000000) hx hb hown (hts _ kcD_125) dD_gate_2 ?_
  refine g_SiR (As := [.int q, .int 0, .int 1000000]) (rest := []) (kD_in hA q 0 1000000) calD_in cvD_in mlD_66 hx hb hml hown hts hB hG hK hS ⟨by decide, by decide⟩ rfl hl.1 rfl (Nat.le_of_ble_eq_true rfl) dD_gate_4 ⟨by decide, by decide⟩ (fun H locs hG hS => ?_)
  refine lb_if_ne (tgt := 14) hx hb dD_gate_7 (by decide) (fun c1 => ?_) (fun c1 => ?_)
  · refine lv_iconst (v := 0) hx hb dD_gate_14 (by decide) ?_
    refine lv_istore_n (lv' := [(2, .int 0), (0, .ref (a 22)), (1, .int q)]) hx hb dD_gate_15 rfl hl (by decide) rfl (fun ls hl => ?_)
    refine lv_aload_n hx hb dD_gate_16 rfl (lv_at hl 1 rfl) ?_
    refine lv_aload_n hx hb dD_gate_17 rfl (lv_at hl 1 rfl) ?_
    refine g_get hx hb hts inD hown hK hG 22 (by decide) hsD22 rfl 12 (by decide) lkD_122 rfl dD_gate_18 ?_
    refine ln_if_ne (x := nf) (tgt := 28) hx hb dD_gate_21 (by decide) (by omega) (fun c2 => absurd c2 (by omega)) (fun c2 => ?_)
    refine lv_iconst (v := 1) hx hb dD_gate_24 (by decide) ?_
    refine lv_goto (tgt := 29) hx hb dD_gate_25 (by decide) ?_
    refine lv_iload_n hx hb dD_gate_29 rfl (lv_at hl 0 rfl) ?_
    refine lv_aload_n hx hb dD_gate_30 rfl (lv_at hl 1 rfl) ?_
    refine g_get hx hb hts inD hown hK hG 22 (by decide) hsD22 rfl 12 (by decide) lkD_122 rfl dD_gate_31 ?_
    refine ln_if_le (x := nf) (tgt := 56) hx hb dD_gate_34 (by decide) (by omega) (fun c3 => ?_) (fun c3 => absurd c3 (by omega))
    refine lv_iconst (v := 0) hx hb dD_gate_56 (by decide) ?_
    refine g_Vi (i := 22) (As := [.int 1, .int 0, .int 0]) (rest := []) (kD_throwing hA hsD22 1 0 0) calD_throwing cvD_throwing mlD_77 hx hb hml hown hts hB hG hK hS (by decide) hsD22 rfl ⟨by decide, by decide⟩ rfl hl.1 rfl (Nat.le_of_ble_eq_true rfl) dD_gate_57 ⟨by decide, by decide⟩ (fun r4 w5 H locs hp6 hG hS => ?_)
    obtain ⟨er8, h7, hfr9⟩ := hp6
    have h10 : w5 32 = .inl (k.1, 8, .inl mo) := (hfr9 32 (by omega)).trans hsDF32
    have h11 : w5 33 = .inl (k.1, 8, .inl mf) := (hfr9 33 (by omega)).trans hsDF33
    have hfr12 : ∀ z, (z < 32 ∨ 33 < z) ∧ z ≠ 22 → w5 z = w z := fun z hz => (hfr9 z (by omega)).trans (hfr0 z hz)
    rw [er8]
    refine lb_if_eq (tgt := 65) hx hb dD_gate_60 (by decide) (fun h9 => absurd (by decide) h9) (fun _ => ?_)
    refine lv_iconst (v := 0) hx hb dD_gate_63 (by decide) ?_
    exact g_iret hQ hx hb hr hlk hG hK hS (by decide) (by decide) ⟨by first | rfl | omega | (simp_all; done) | grind, h7, ⟨h10, h11⟩, hfr12⟩ dD_gate_64
  · refine lv_iconst (v := 1) hx hb dD_gate_10 (by decide) ?_
    refine lv_goto (tgt := 15) hx hb dD_gate_11 (by decide) ?_
    refine lv_istore_n (lv' := [(2, .int 1), (0, .ref (a 22)), (1, .int q)]) hx hb dD_gate_15 rfl hl (by decide) rfl (fun ls hl => ?_)
    refine lv_aload_n hx hb dD_gate_16 rfl (lv_at hl 1 rfl) ?_
    refine lv_aload_n hx hb dD_gate_17 rfl (lv_at hl 1 rfl) ?_
    refine g_get hx hb hts inD hown hK hG 22 (by decide) hsD22 rfl 12 (by decide) lkD_122 rfl dD_gate_18 ?_
    refine ln_if_ne (x := nf) (tgt := 28) hx hb dD_gate_21 (by decide) (by omega) (fun c14 => absurd c14 (by omega)) (fun c14 => ?_)
    refine lv_iconst (v := 1) hx hb dD_gate_24 (by decide) ?_
    refine lv_goto (tgt := 29) hx hb dD_gate_25 (by decide) ?_
    refine lv_iload_n hx hb dD_gate_29 rfl (lv_at hl 0 rfl) ?_
    refine lv_aload_n hx hb dD_gate_30 rfl (lv_at hl 1 rfl) ?_
    refine g_get hx hb hts inD hown hK hG 22 (by decide) hsD22 rfl 12 (by decide) lkD_122 rfl dD_gate_31 ?_
    refine ln_if_le (x := nf) (tgt := 56) hx hb dD_gate_34 (by decide) (by omega) (fun c15 => ?_) (fun c15 => absurd c15 (by omega))
    refine lv_iconst (v := 0) hx hb dD_gate_56 (by decide) ?_
    refine g_Vi (i := 22) (As := [.int 1, .int 1, .int 0]) (rest := []) (kD_throwing hA hsD22 1 1 0) calD_throwing cvD_throwing mlD_77 hx hb hml hown hts hB hG hK hS (by decide) hsD22 rfl ⟨by decide, by decide⟩ rfl hl.1 rfl (Nat.le_of_ble_eq_true rfl) dD_gate_57 ⟨by decide, by decide⟩ (fun r16 w17 H locs hp18 hG hS => ?_)
    obtain ⟨er20, h19, hfr21⟩ := hp18
    have h22 : w17 32 = .inl (k.1, 8, .inl mo) := (hfr21 32 (by omega)).trans hsDF32
    have h23 : w17 33 = .inl (k.1, 8, .inl mf) := (hfr21 33 (by omega)).trans hsDF33
    have hfr24 : ∀ z, (z < 32 ∨ 33 < z) ∧ z ≠ 22 → w17 z = w z := fun z hz => (hfr21 z (by omega)).trans (hfr0 z hz)
    rw [er20]
    refine lb_if_eq (tgt := 65) hx hb dD_gate_60 (by decide) (fun h9 => absurd (by decide) h9) (fun _ => ?_)
    refine lv_iconst (v := 0) hx hb dD_gate_63 (by decide) ?_
    exact g_iret hQ hx hb hr hlk hG hK hS (by decide) (by decide) ⟨by first | rfl | omega | (simp_all; done) | grind, h19, ⟨h22, h23⟩, hfr24⟩ dD_gate_64

abbrev rmD_gate_z : Room := { frames := 1, cells := 0, slots := 0, locals := 24 }
set_option maxRecDepth 100000 in
set_option maxHeartbeats 4000000 in
theorem kD_gate_z {l : Launch} {D : va_G} {k : ClassId × ClassId × ClassId} {a : Nat → Nat} {B0 : Nat} {w : Nat → va_E} (hA : gA B0 a) {th : Int32} {n : Nat} {nr : Nat} {nf : Nat} {bw : Int32} {bd : Int32} {nt : Nat} {mo : Nat → Int32} {mf : Nat → Int32} (hsD : sD k a w th n nr nf bw bd nt) (hsDF : sDF k a w mo mf) (q : Int32) (h0 : 0 < nf) (hn : nf ≤ 8) (h1 : ¬ rngI q 0 1000000) : Met l yD_gate (tbw yD_gate cD_gate 7 (some .int)) rmD_gate_z (gPc D k a B0 w [.ref (a 22), .int q]) (va_Qi (fun rr9 w1 => rr9 = 0 ∧ (sD k a w1 2 n nr nf bw bd nt) ∧ (sDF k a w1 mo mf) ∧ ∀ z, (z < 32 ∨ 33 < z) ∧ z ≠ 22 → w1 z = w z) (gB D k a) (gF B0)) 0 0 (gF B0) := by
  have hsD22 := hsD
  obtain ⟨hsDF32, hsDF33⟩ := hsDF
  refine g_ofW (by decide) rfl (fun p e s m args below meth c Q hQ hx hb hr hlk hml hown hts hB hG hK hS ls hl => ?_)
  have hl : lv_has ls 7 [(0, .ref (a 22)), (1, .int q)] := hl
  have hown : s.vm.findClass RD = some m.cls := hown
  have hfr0 : ∀ z, (z < 32 ∨ 33 < z) ∧ z ≠ 22 → w z = w z := fun _ _ => rfl
  refine lv_iload_n hx hb dD_gate_0 rfl (lv_at hl 1 rfl) ?_
  refine lv_iconst (v := 0) hx hb dD_gate_1 (by decide) ?_
  refine lv_ldc (v := 1000000) hx hb hown (hts _ kcD_125) dD_gate_2 ?_
  refine g_SiR (As := [.int q, .int 0, .int 1000000]) (rest := []) (kD_in hA q 0 1000000) calD_in cvD_in mlD_66 hx hb hml hown hts hB hG hK hS ⟨by decide, by decide⟩ rfl hl.1 rfl (Nat.le_of_ble_eq_true rfl) dD_gate_4 ⟨by decide, by decide⟩ (fun H locs hG hS => ?_)
  refine lb_if_ne (tgt := 14) hx hb dD_gate_7 (by decide) (fun h9 => absurd h9 h1) (fun _ => ?_)
  refine lv_iconst (v := 1) hx hb dD_gate_10 (by decide) ?_
  refine lv_goto (tgt := 15) hx hb dD_gate_11 (by decide) ?_
  refine lv_istore_n (lv' := [(2, .int 1), (0, .ref (a 22)), (1, .int q)]) hx hb dD_gate_15 rfl hl (by decide) rfl (fun ls hl => ?_)
  refine lv_aload_n hx hb dD_gate_16 rfl (lv_at hl 1 rfl) ?_
  refine lv_aload_n hx hb dD_gate_17 rfl (lv_at hl 1 rfl) ?_
  refine g_get hx hb hts inD hown hK hG 22 (by decide) hsD22 rfl 12 (by decide) lkD_122 rfl dD_gate_18 ?_
  refine ln_if_ne (x := nf) (tgt := 28) hx hb dD_gate_21 (by decide) (by omega) (fun c2 => ?_) (fun c2 => absurd c2 (by omega))
  refine lv_iconst (v := 0) hx hb dD_gate_28 (by decide) ?_
  refine lv_iload_n hx hb dD_gate_29 rfl (lv_at hl 0 rfl) ?_
  refine lv_aload_n hx hb dD_gate_30 rfl (lv_at hl 1 rfl) ?_
  refine g_get hx hb hts inD hown hK hG 22 (by decide) hsD22 rfl 12 (by decide) lkD_122 rfl dD_gate_31 ?_
  refine ln_if_le (x := nf) (tgt := 56) hx hb dD_gate_34 (by decide) (by omega) (fun c3 => absurd c3 (by omega)) (fun c3 => ?_)
  refine lv_iload_n hx hb dD_gate_37 rfl (lv_at hl 0 rfl) ?_
  refine lv_if_ne (tgt := 56) hx hb dD_gate_38 (by decide) (fun _ => ?_) (fun h9 => absurd h9 (by decide))
  refine lv_iconst (v := 0) hx hb dD_gate_56 (by decide) ?_
  refine g_Vi (i := 22) (As := [.int 0, .int 1, .int 0]) (rest := []) (kD_throwing hA hsD22 0 1 0) calD_throwing cvD_throwing mlD_77 hx hb hml hown hts hB hG hK hS (by decide) hsD22 rfl ⟨by decide, by decide⟩ rfl hl.1 rfl (Nat.le_of_ble_eq_true rfl) dD_gate_57 ⟨by decide, by decide⟩ (fun r5 w6 H locs hp7 hG hS => ?_)
  obtain ⟨er9, h8, hfr10⟩ := hp7
  have h11 : w6 32 = .inl (k.1, 8, .inl mo) := (hfr10 32 (by omega)).trans hsDF32
  have h12 : w6 33 = .inl (k.1, 8, .inl mf) := (hfr10 33 (by omega)).trans hsDF33
  have hfr13 : ∀ z, (z < 32 ∨ 33 < z) ∧ z ≠ 22 → w6 z = w z := fun z hz => (hfr10 z (by omega)).trans (hfr0 z hz)
  rw [er9]
  refine lb_if_eq (tgt := 65) hx hb dD_gate_60 (by decide) (fun h9 => absurd (by decide) h9) (fun _ => ?_)
  refine lv_iconst (v := 0) hx hb dD_gate_63 (by decide) ?_
  exact g_iret hQ hx hb hr hlk hG hK hS (by decide) (by decide) ⟨by first | rfl | omega | (simp_all; done) | grind, h8, ⟨h11, h12⟩, hfr13⟩ dD_gate_64

abbrev rmD_gate_m : Room := { frames := 1, cells := 0, slots := 0, locals := 24 }
set_option maxRecDepth 100000 in
set_option maxHeartbeats 4000000 in
theorem kD_gate_m {l : Launch} {D : va_G} {k : ClassId × ClassId × ClassId} {a : Nat → Nat} {B0 : Nat} {w : Nat → va_E} (hA : gA B0 a) {th : Int32} {n : Nat} {nr : Nat} {nf : Nat} {bw : Int32} {bd : Int32} {nt : Nat} {mo : Nat → Int32} {mf : Nat → Int32} (hsD : sD k a w th n nr nf bw bd nt) (hsDF : sDF k a w mo mf) (q : Int32) (h0 : 0 < nf) (hn : nf ≤ 8) (h1 : rngI q 0 1000000) (hm : ¬ q ≤ mFl mo mf nf 10000) : Met l yD_gate (tbw yD_gate cD_gate 7 (some .int)) rmD_gate_m (gPc D k a B0 w [.ref (a 22), .int q]) (va_Qi (fun rr9 w1 => rr9 = 0 ∧ (sD k a w1 3 n nr nf bw bd nt) ∧ (sDF k a w1 mo mf) ∧ ∀ z, (z < 32 ∨ 33 < z) ∧ z ≠ 22 → w1 z = w z) (gB D k a) (gF B0)) 0 0 (gF B0) := by
  have hsD22 := hsD
  obtain ⟨hsDF32, hsDF33⟩ := hsDF
  refine g_ofW (by decide) rfl (fun p e s m args below meth c Q hQ hx hb hr hlk hml hown hts hB hG hK hS ls hl => ?_)
  have hl : lv_has ls 7 [(0, .ref (a 22)), (1, .int q)] := hl
  have hown : s.vm.findClass RD = some m.cls := hown
  have hfr0 : ∀ z, (z < 32 ∨ 33 < z) ∧ z ≠ 22 → w z = w z := fun _ _ => rfl
  refine lv_iload_n hx hb dD_gate_0 rfl (lv_at hl 1 rfl) ?_
  refine lv_iconst (v := 0) hx hb dD_gate_1 (by decide) ?_
  refine lv_ldc (v := 1000000) hx hb hown (hts _ kcD_125) dD_gate_2 ?_
  refine g_SiR (As := [.int q, .int 0, .int 1000000]) (rest := []) (kD_in hA q 0 1000000) calD_in cvD_in mlD_66 hx hb hml hown hts hB hG hK hS ⟨by decide, by decide⟩ rfl hl.1 rfl (Nat.le_of_ble_eq_true rfl) dD_gate_4 ⟨by decide, by decide⟩ (fun H locs hG hS => ?_)
  refine lb_if_ne (tgt := 14) hx hb dD_gate_7 (by decide) (fun _ => ?_) (fun h9 => absurd h1 h9)
  refine lv_iconst (v := 0) hx hb dD_gate_14 (by decide) ?_
  refine lv_istore_n (lv' := [(2, .int 0), (0, .ref (a 22)), (1, .int q)]) hx hb dD_gate_15 rfl hl (by decide) rfl (fun ls hl => ?_)
  refine lv_aload_n hx hb dD_gate_16 rfl (lv_at hl 1 rfl) ?_
  refine lv_aload_n hx hb dD_gate_17 rfl (lv_at hl 1 rfl) ?_
  refine g_get hx hb hts inD hown hK hG 22 (by decide) hsD22 rfl 12 (by decide) lkD_122 rfl dD_gate_18 ?_
  refine ln_if_ne (x := nf) (tgt := 28) hx hb dD_gate_21 (by decide) (by omega) (fun c2 => ?_) (fun c2 => absurd c2 (by omega))
  refine lv_iconst (v := 0) hx hb dD_gate_28 (by decide) ?_
  refine lv_iload_n hx hb dD_gate_29 rfl (lv_at hl 0 rfl) ?_
  refine lv_aload_n hx hb dD_gate_30 rfl (lv_at hl 1 rfl) ?_
  refine g_get hx hb hts inD hown hK hG 22 (by decide) hsD22 rfl 12 (by decide) lkD_122 rfl dD_gate_31 ?_
  refine ln_if_le (x := nf) (tgt := 56) hx hb dD_gate_34 (by decide) (by omega) (fun c3 => absurd c3 (by omega)) (fun c3 => ?_)
  refine lv_iload_n hx hb dD_gate_37 rfl (lv_at hl 0 rfl) ?_
  refine lv_if_ne (tgt := 56) hx hb dD_gate_38 (by decide) (fun h9 => absurd h9 (by decide)) (fun _ => ?_)
  refine lv_aload_n hx hb dD_gate_41 rfl (lv_at hl 1 rfl) ?_
  refine lv_sipush (v := 10000) hx hb dD_gate_42 (by decide) ?_
  refine g_ViR (i := 22) (As := [.int 10000]) (rest := [.int 0, .int 0, .ref (a 22)]) (kD_flowAt hA hsD22 ⟨hsDF32, hsDF33⟩ 10000 (by omega) (by omega)) calD_flowAt cvD_flowAt mlD_126 hx hb hml hown hts hB hG hK hS (by decide) hsD22 rfl ⟨by decide, by decide⟩ rfl hl.1 rfl (Nat.le_of_ble_eq_true rfl) dD_gate_45 ⟨by decide, by decide⟩ (fun H locs hG hS => ?_)
  refine lv_iload_n hx hb dD_gate_48 rfl (lv_at hl 2 rfl) ?_
  refine lv_icmp_ge (tgt := 56) hx hb dD_gate_49 (by decide) (fun c5 => (absurd c5 hm)) (fun c5 => ?_)
  refine lv_iconst (v := 1) hx hb dD_gate_52 (by decide) ?_
  refine lv_goto (tgt := 57) hx hb dD_gate_53 (by decide) ?_
  refine g_Vi (i := 22) (As := [.int 0, .int 0, .int 1]) (rest := []) (kD_throwing hA hsD22 0 0 1) calD_throwing cvD_throwing mlD_77 hx hb hml hown hts hB hG hK hS (by decide) hsD22 rfl ⟨by decide, by decide⟩ rfl hl.1 rfl (Nat.le_of_ble_eq_true rfl) dD_gate_57 ⟨by decide, by decide⟩ (fun r6 w7 H locs hp8 hG hS => ?_)
  obtain ⟨er10, h9, hfr11⟩ := hp8
  have h12 : w7 32 = .inl (k.1, 8, .inl mo) := (hfr11 32 (by omega)).trans hsDF32
  have h13 : w7 33 = .inl (k.1, 8, .inl mf) := (hfr11 33 (by omega)).trans hsDF33
  have hfr14 : ∀ z, (z < 32 ∨ 33 < z) ∧ z ≠ 22 → w7 z = w z := fun z hz => (hfr11 z (by omega)).trans (hfr0 z hz)
  rw [er10]
  refine lb_if_eq (tgt := 65) hx hb dD_gate_60 (by decide) (fun h9 => absurd (by decide) h9) (fun _ => ?_)
  refine lv_iconst (v := 0) hx hb dD_gate_63 (by decide) ?_
  exact g_iret hQ hx hb hr hlk hG hK hS (by decide) (by decide) ⟨by first | rfl | omega | (simp_all; done) | grind, h9, ⟨h12, h13⟩, hfr14⟩ dD_gate_64

abbrev rmD_gate_k : Room := { frames := 1, cells := 0, slots := 0, locals := 24 }
set_option maxRecDepth 100000 in
set_option maxHeartbeats 4000000 in
theorem kD_gate_k {l : Launch} {D : va_G} {k : ClassId × ClassId × ClassId} {a : Nat → Nat} {B0 : Nat} {w : Nat → va_E} (hA : gA B0 a) {th : Int32} {n : Nat} {nr : Nat} {nf : Nat} {bw : Int32} {bd : Int32} {nt : Nat} {mo : Nat → Int32} {mf : Nat → Int32} (hsD : sD k a w th n nr nf bw bd nt) (hsDF : sDF k a w mo mf) (q : Int32) (h0 : 0 < nf) (hn : nf ≤ 8) (h1 : rngI q 0 1000000) (hm : q ≤ mFl mo mf nf 10000) : Met l yD_gate (tbw yD_gate cD_gate 7 (some .int)) rmD_gate_k (gPc D k a B0 w [.ref (a 22), .int q]) (va_Qi (fun rr9 w1 => rr9 = (nI (gaF (mFl mo mf nf) q 100 0 10000)) ∧ (sD k a w1 0 n nr nf bw bd nt) ∧ (sDF k a w1 mo mf) ∧ ∀ z, (z < 32 ∨ 33 < z) ∧ z ≠ 22 → w1 z = w z) (gB D k a) (gF B0)) 0 0 (gF B0) := by
  have hsD22 := hsD
  obtain ⟨hsDF32, hsDF33⟩ := hsDF
  refine g_ofW (by decide) rfl (fun p e s m args below meth c Q hQ hx hb hr hlk hml hown hts hB hG hK hS ls hl => ?_)
  have hl : lv_has ls 7 [(0, .ref (a 22)), (1, .int q)] := hl
  have hown : s.vm.findClass RD = some m.cls := hown
  have hfr0 : ∀ z, (z < 32 ∨ 33 < z) ∧ z ≠ 22 → w z = w z := fun _ _ => rfl
  refine lv_iload_n hx hb dD_gate_0 rfl (lv_at hl 1 rfl) ?_
  refine lv_iconst (v := 0) hx hb dD_gate_1 (by decide) ?_
  refine lv_ldc (v := 1000000) hx hb hown (hts _ kcD_125) dD_gate_2 ?_
  refine g_SiR (As := [.int q, .int 0, .int 1000000]) (rest := []) (kD_in hA q 0 1000000) calD_in cvD_in mlD_66 hx hb hml hown hts hB hG hK hS ⟨by decide, by decide⟩ rfl hl.1 rfl (Nat.le_of_ble_eq_true rfl) dD_gate_4 ⟨by decide, by decide⟩ (fun H locs hG hS => ?_)
  refine lb_if_ne (tgt := 14) hx hb dD_gate_7 (by decide) (fun _ => ?_) (fun h9 => absurd h1 h9)
  refine lv_iconst (v := 0) hx hb dD_gate_14 (by decide) ?_
  refine lv_istore_n (lv' := [(2, .int 0), (0, .ref (a 22)), (1, .int q)]) hx hb dD_gate_15 rfl hl (by decide) rfl (fun ls hl => ?_)
  refine lv_aload_n hx hb dD_gate_16 rfl (lv_at hl 1 rfl) ?_
  refine lv_aload_n hx hb dD_gate_17 rfl (lv_at hl 1 rfl) ?_
  refine g_get hx hb hts inD hown hK hG 22 (by decide) hsD22 rfl 12 (by decide) lkD_122 rfl dD_gate_18 ?_
  refine ln_if_ne (x := nf) (tgt := 28) hx hb dD_gate_21 (by decide) (by omega) (fun c2 => ?_) (fun c2 => absurd c2 (by omega))
  refine lv_iconst (v := 0) hx hb dD_gate_28 (by decide) ?_
  refine lv_iload_n hx hb dD_gate_29 rfl (lv_at hl 0 rfl) ?_
  refine lv_aload_n hx hb dD_gate_30 rfl (lv_at hl 1 rfl) ?_
  refine g_get hx hb hts inD hown hK hG 22 (by decide) hsD22 rfl 12 (by decide) lkD_122 rfl dD_gate_31 ?_
  refine ln_if_le (x := nf) (tgt := 56) hx hb dD_gate_34 (by decide) (by omega) (fun c3 => absurd c3 (by omega)) (fun c3 => ?_)
  refine lv_iload_n hx hb dD_gate_37 rfl (lv_at hl 0 rfl) ?_
  refine lv_if_ne (tgt := 56) hx hb dD_gate_38 (by decide) (fun h9 => absurd h9 (by decide)) (fun _ => ?_)
  refine lv_aload_n hx hb dD_gate_41 rfl (lv_at hl 1 rfl) ?_
  refine lv_sipush (v := 10000) hx hb dD_gate_42 (by decide) ?_
  refine g_ViR (i := 22) (As := [.int 10000]) (rest := [.int 0, .int 0, .ref (a 22)]) (kD_flowAt hA hsD22 ⟨hsDF32, hsDF33⟩ 10000 (by omega) (by omega)) calD_flowAt cvD_flowAt mlD_126 hx hb hml hown hts hB hG hK hS (by decide) hsD22 rfl ⟨by decide, by decide⟩ rfl hl.1 rfl (Nat.le_of_ble_eq_true rfl) dD_gate_45 ⟨by decide, by decide⟩ (fun H locs hG hS => ?_)
  refine lv_iload_n hx hb dD_gate_48 rfl (lv_at hl 2 rfl) ?_
  refine lv_icmp_ge (tgt := 56) hx hb dD_gate_49 (by decide) (fun c5 => ?_) (fun c5 => (absurd hm c5))
  refine lv_iconst (v := 0) hx hb dD_gate_56 (by decide) ?_
  refine g_Vi (i := 22) (As := [.int 0, .int 0, .int 0]) (rest := []) (kD_throwing hA hsD22 0 0 0) calD_throwing cvD_throwing mlD_77 hx hb hml hown hts hB hG hK hS (by decide) hsD22 rfl ⟨by decide, by decide⟩ rfl hl.1 rfl (Nat.le_of_ble_eq_true rfl) dD_gate_57 ⟨by decide, by decide⟩ (fun r6 w7 H locs hp8 hG hS => ?_)
  obtain ⟨er10, h9, hfr11⟩ := hp8
  have h12 : w7 32 = .inl (k.1, 8, .inl mo) := (hfr11 32 (by omega)).trans hsDF32
  have h13 : w7 33 = .inl (k.1, 8, .inl mf) := (hfr11 33 (by omega)).trans hsDF33
  have hfr14 : ∀ z, (z < 32 ∨ 33 < z) ∧ z ≠ 22 → w7 z = w z := fun z hz => (hfr11 z (by omega)).trans (hfr0 z hz)
  rw [er10]
  refine lb_if_eq (tgt := 65) hx hb dD_gate_60 (by decide) (fun _ => ?_) (fun h9 => absurd h9 (by decide))
  refine lv_iconst (v := 0) hx hb dD_gate_65 (by decide) ?_
  refine lv_istore_n (lv' := [(3, .int 0), (2, .int 0), (0, .ref (a 22)), (1, .int q)]) hx hb dD_gate_66 rfl hl (by decide) rfl (fun ls hl => ?_)
  refine lv_sipush (v := 10000) hx hb dD_gate_67 (by decide) ?_
  refine lv_istore (lv' := [(4, .int 10000), (3, .int 0), (2, .int 0), (0, .ref (a 22)), (1, .int q)]) hx hb dD_gate_70 hl (by decide) rfl (fun ls hl => ?_)
  have loop72 : ∀ (k9 : Nat) (x : Nat) (y : Nat) (hx9 : x ≤ 10000) (hy9 : y ≤ 10000) (hk : y - x < 2 ^ k9) (hres : gaF (mFl mo mf nf) q k9 x y = gaF (mFl mo mf nf) q 100 0 10000) (H : Heap) (locs : List Loc) (ls : Array Slot), gW D a w7 H → va_S (gF B0) s.heap H locs → lv_has ls 7 [(0, .ref (a 22)), (1, .int q), (3, .int (nI x)), (4, .int (nI y))] → W p l e rmD_gate_k s m args below meth c H locs 0 0 Q (F0 m 72 ls []) := by
    intro k9
    induction k9 using Nat.strongRecOn with
    | _ k9 ih72 =>
      intro x y hx9 hy9 hk hres H locs ls hG hS hl
      refine lv_iload_n hx hb dD_gate_72 rfl (lv_at hl 2 rfl) ?_
      refine lv_iload hx hb dD_gate_73 (lv_at hl 3 rfl) ?_
      refine ln_icmp_ge (x := x) (y := y) (tgt := 134) hx hb dD_gate_75 (by decide) (by omega) (by omega) (fun c16 => ?_) (fun c16 => ?_)
      · refine lv_iload_n hx hb dD_gate_134 rfl (lv_at hl 2 rfl) ?_
        exact g_iret hQ hx hb hr hlk hG hK hS (by decide) (by decide) ⟨by rw [← hres, gaF_e (by omega)], h9, ⟨h12, h13⟩, hfr14⟩ dD_gate_135
      · obtain ⟨k8, rfl⟩ := half_k hk (by omega)
        refine lv_iload_n hx hb dD_gate_78 rfl (lv_at hl 2 rfl) ?_
        refine lv_iload hx hb dD_gate_79 (lv_at hl 3 rfl) ?_
        refine ln_iadd (x := x) (y := y) hx hb dD_gate_81 ?_
        refine lv_iconst (v := 2) hx hb dD_gate_82 (by decide) ?_
        refine ln_idiv (x := x + y) (y := 2) hx hb dD_gate_83 (by omega) (by decide) (by decide) ?_
        refine lv_istore (lv' := [(5, .int (nI ((x + y) / 2))), (0, .ref (a 22)), (1, .int q), (3, .int (nI x)), (4, .int (nI y))]) hx hb dD_gate_84 hl (by decide) rfl (fun ls hl => ?_)
        refine lv_aload_n hx hb dD_gate_86 rfl (lv_at hl 1 rfl) ?_
        refine lv_iload hx hb dD_gate_87 (lv_at hl 0 rfl) ?_
        refine g_ViR (i := 22) (As := [.int (nI ((x + y) / 2))]) (rest := []) (kD_flowAt hA h9 ⟨h12, h13⟩ (nI ((x + y) / 2)) (by omega) (by omega)) calD_flowAt cvD_flowAt mlD_126 hx hb hml hown hts hB hG hK hS (by decide) h9 rfl ⟨by decide, by decide⟩ rfl hl.1 rfl (Nat.le_of_ble_eq_true rfl) dD_gate_89 ⟨by decide, by decide⟩ (fun H locs hG hS => ?_)
        refine lv_iload_n hx hb dD_gate_92 rfl (lv_at hl 2 rfl) ?_
        refine lv_icmp_lt (tgt := 100) hx hb dD_gate_93 (by decide) (fun c17 => ?_) (fun c17 => ?_)
        · refine lv_iconst (v := 0) hx hb dD_gate_100 (by decide) ?_
          refine lv_istore (lv' := [(6, .int 0), (5, .int (nI ((x + y) / 2))), (0, .ref (a 22)), (1, .int q), (3, .int (nI x)), (4, .int (nI y))]) hx hb dD_gate_101 hl (by decide) rfl (fun ls hl => ?_)
          refine lv_iload hx hb dD_gate_103 (lv_at hl 0 rfl) ?_
          refine lv_if_eq (tgt := 113) hx hb dD_gate_105 (by decide) (fun _ => ?_) (fun h9 => absurd h9 (by decide))
          refine lv_iload hx hb dD_gate_113 (lv_at hl 5 rfl) ?_
          refine lv_istore (lv' := [(4, .int (nI y)), (6, .int 0), (5, .int (nI ((x + y) / 2))), (0, .ref (a 22)), (1, .int q), (3, .int (nI x))]) hx hb dD_gate_115 hl (by decide) rfl (fun ls hl => ?_)
          refine lv_iload hx hb dD_gate_117 (lv_at hl 1 rfl) ?_
          refine lv_if_eq (tgt := 126) hx hb dD_gate_119 (by decide) (fun _ => ?_) (fun h9 => absurd h9 (by decide))
          refine lv_iload hx hb dD_gate_126 (lv_at hl 2 rfl) ?_
          refine lv_iconst (v := 1) hx hb dD_gate_128 (by decide) ?_
          refine ln_iadd (x := (x + y) / 2) (y := 1) hx hb dD_gate_129 ?_
          refine lv_istore_n (lv' := [(3, .int (nI (((x + y) / 2) + 1))), (4, .int (nI y)), (6, .int 0), (5, .int (nI ((x + y) / 2))), (0, .ref (a 22)), (1, .int q)]) hx hb dD_gate_130 rfl hl (by decide) rfl (fun ls hl => ?_)
          refine lv_goto (tgt := 72) hx hb dD_gate_131 (by decide) ?_
          exact ih72 k8 (by omega) (((x + y) / 2) + 1) y (by omega) (by omega) (by first | exact half_l hk (by omega) | exact half_h hk (by omega)) (by first | exact (gaF_l (fl := mFl mo mf nf) (by omega) (by assumption)).symm.trans hres | exact (gaF_h (fl := mFl mo mf nf) (by omega) (by assumption)).symm.trans hres) _ _ _ hG hS (lv_sub hl [4, 5, 0, 1] rfl)
        · refine lv_iconst (v := 1) hx hb dD_gate_96 (by decide) ?_
          refine lv_goto (tgt := 101) hx hb dD_gate_97 (by decide) ?_
          refine lv_istore (lv' := [(6, .int 1), (5, .int (nI ((x + y) / 2))), (0, .ref (a 22)), (1, .int q), (3, .int (nI x)), (4, .int (nI y))]) hx hb dD_gate_101 hl (by decide) rfl (fun ls hl => ?_)
          refine lv_iload hx hb dD_gate_103 (lv_at hl 0 rfl) ?_
          refine lv_if_eq (tgt := 113) hx hb dD_gate_105 (by decide) (fun h9 => absurd h9 (by decide)) (fun _ => ?_)
          refine lv_iload hx hb dD_gate_108 (lv_at hl 1 rfl) ?_
          refine lv_goto (tgt := 115) hx hb dD_gate_110 (by decide) ?_
          refine lv_istore (lv' := [(4, .int (nI ((x + y) / 2))), (6, .int 1), (5, .int (nI ((x + y) / 2))), (0, .ref (a 22)), (1, .int q), (3, .int (nI x))]) hx hb dD_gate_115 hl (by decide) rfl (fun ls hl => ?_)
          refine lv_iload hx hb dD_gate_117 (lv_at hl 1 rfl) ?_
          refine lv_if_eq (tgt := 126) hx hb dD_gate_119 (by decide) (fun h9 => absurd h9 (by decide)) (fun _ => ?_)
          refine lv_iload_n hx hb dD_gate_122 rfl (lv_at hl 5 rfl) ?_
          refine lv_goto (tgt := 130) hx hb dD_gate_123 (by decide) ?_
          refine lv_istore_n (lv' := [(3, .int (nI x)), (4, .int (nI ((x + y) / 2))), (6, .int 1), (5, .int (nI ((x + y) / 2))), (0, .ref (a 22)), (1, .int q)]) hx hb dD_gate_130 rfl hl (by decide) rfl (fun ls hl => ?_)
          refine lv_goto (tgt := 72) hx hb dD_gate_131 (by decide) ?_
          exact ih72 k8 (by omega) x ((x + y) / 2) (by omega) (by omega) (by first | exact half_l hk (by omega) | exact half_h hk (by omega)) (by first | exact (gaF_l (fl := mFl mo mf nf) (by omega) (by assumption)).symm.trans hres | exact (gaF_h (fl := mFl mo mf nf) (by omega) (by assumption)).symm.trans hres) _ _ _ hG hS (lv_sub hl [4, 5, 0, 1] rfl)
  exact loop72 100 0 10000 (by omega) (by omega) lk_half0 rfl _ _ _ hG hS (lv_sub hl [3, 4, 1, 0] rfl)

abbrev rmD_pattern_z : Room := { frames := 2, cells := 0, slots := 0, locals := 42 }
set_option maxRecDepth 100000 in
set_option maxHeartbeats 4000000 in
theorem kD_pattern_z {l : Launch} {D : va_G} {k : ClassId × ClassId × ClassId} {a : Nat → Nat} {B0 : Nat} {w : Nat → va_E} (hA : gA B0 a) {th : Int32} {n : Nat} {nr : Nat} {nf : Nat} {bw : Int32} {bd : Int32} {nt : Nat} (hsD : sD k a w th n nr nf bw bd nt) (x : Int32) (y : Int32) (hz : ¬ (szR x ∧ rngI y 0 100)) : Met l yD_pattern (tbw yD_pattern cD_pattern 3 (some .int)) rmD_pattern_z (gPc D k a B0 w [.ref (a 22), .int x, .int y]) (va_Qi (fun rr9 w1 => rr9 = 0 ∧ (sD k a w1 1 n nr nf bw bd nt) ∧ ∀ z, z < 22 ∨ 22 < z → w1 z = w z) (gB D k a) (gF B0)) 0 0 (gF B0) := by
  have hsD22 := hsD
  refine g_ofW (by decide) rfl (fun p e s m args below meth c Q hQ hx hb hr hlk hml hown hts hB hG hK hS ls hl => ?_)
  have hl : lv_has ls 3 [(0, .ref (a 22)), (1, .int x), (2, .int y)] := hl
  have hown : s.vm.findClass RD = some m.cls := hown
  have hfr0 : ∀ z, z < 22 ∨ 22 < z → w z = w z := fun _ _ => rfl
  refine lv_aload_n hx hb dD_pattern_0 rfl (lv_at hl 0 rfl) ?_
  refine lv_iload_n hx hb dD_pattern_1 rfl (lv_at hl 1 rfl) ?_
  refine g_SiR (As := [.int x]) (rest := [.ref (a 22)]) (kD_isSize hA x) calD_isSize cvD_isSize mlD_73 hx hb hml hown hts hB hG hK hS ⟨by decide, by decide⟩ rfl hl.1 rfl (Nat.le_of_ble_eq_true rfl) dD_pattern_2 ⟨by decide, by decide⟩ (fun H locs hG hS => ?_)
  refine lb_if_eq (tgt := 18) hx hb dD_pattern_5 (by decide) (fun c1 => ?_) (fun c1 => ?_)
  · refine lv_iconst (v := 1) hx hb dD_pattern_18 (by decide) ?_
    refine lv_goto (tgt := 23) hx hb dD_pattern_19 (by decide) ?_
    refine lv_iconst (v := 0) hx hb dD_pattern_23 (by decide) ?_
    refine lv_iconst (v := 0) hx hb dD_pattern_24 (by decide) ?_
    refine g_Vi (i := 22) (As := [.int 1, .int 0, .int 0]) (rest := []) (kD_throwing hA hsD22 1 0 0) calD_throwing cvD_throwing mlD_77 hx hb hml hown hts hB hG hK hS (by decide) hsD22 rfl ⟨by decide, by decide⟩ rfl hl.1 rfl (Nat.le_of_ble_eq_true rfl) dD_pattern_25 ⟨by decide, by decide⟩ (fun r2 w3 H locs hp4 hG hS => ?_)
    obtain ⟨er6, h5, hfr7⟩ := hp4
    have hfr8 : ∀ z, z < 22 ∨ 22 < z → w3 z = w z := fun z hz => (hfr7 z (by omega)).trans (hfr0 z hz)
    rw [er6]
    refine lb_if_eq (tgt := 33) hx hb dD_pattern_28 (by decide) (fun h9 => absurd (by decide) h9) (fun _ => ?_)
    refine lv_iconst (v := 0) hx hb dD_pattern_31 (by decide) ?_
    exact g_iret hQ hx hb hr hlk hG hK hS (by decide) (by decide) ⟨by first | rfl | omega | (simp_all; done) | grind, h5, hfr8⟩ dD_pattern_32
  · refine lv_iload_n hx hb dD_pattern_8 rfl (lv_at hl 2 rfl) ?_
    refine lv_iconst (v := 0) hx hb dD_pattern_9 (by decide) ?_
    refine lv_bipush (v := 100) hx hb dD_pattern_10 (by decide) ?_
    refine g_SiR (As := [.int y, .int 0, .int 100]) (rest := [.ref (a 22)]) (kD_in hA y 0 100) calD_in cvD_in mlD_66 hx hb hml hown hts hB hG hK hS ⟨by decide, by decide⟩ rfl hl.1 rfl (Nat.le_of_ble_eq_true rfl) dD_pattern_12 ⟨by decide, by decide⟩ (fun H locs hG hS => ?_)
    refine lb_if_ne (tgt := 22) hx hb dD_pattern_15 (by decide) (fun c10 => ?_) (fun c10 => ?_)
    · exact absurd ⟨by assumption, by assumption⟩ hz
    · refine lv_iconst (v := 1) hx hb dD_pattern_18 (by decide) ?_
      refine lv_goto (tgt := 23) hx hb dD_pattern_19 (by decide) ?_
      refine lv_iconst (v := 0) hx hb dD_pattern_23 (by decide) ?_
      refine lv_iconst (v := 0) hx hb dD_pattern_24 (by decide) ?_
      refine g_Vi (i := 22) (As := [.int 1, .int 0, .int 0]) (rest := []) (kD_throwing hA hsD22 1 0 0) calD_throwing cvD_throwing mlD_77 hx hb hml hown hts hB hG hK hS (by decide) hsD22 rfl ⟨by decide, by decide⟩ rfl hl.1 rfl (Nat.le_of_ble_eq_true rfl) dD_pattern_25 ⟨by decide, by decide⟩ (fun r11 w12 H locs hp13 hG hS => ?_)
      obtain ⟨er15, h14, hfr16⟩ := hp13
      have hfr17 : ∀ z, z < 22 ∨ 22 < z → w12 z = w z := fun z hz => (hfr16 z (by omega)).trans (hfr0 z hz)
      rw [er15]
      refine lb_if_eq (tgt := 33) hx hb dD_pattern_28 (by decide) (fun h9 => absurd (by decide) h9) (fun _ => ?_)
      refine lv_iconst (v := 0) hx hb dD_pattern_31 (by decide) ?_
      exact g_iret hQ hx hb hr hlk hG hK hS (by decide) (by decide) ⟨by first | rfl | omega | (simp_all; done) | grind, h14, hfr17⟩ dD_pattern_32

abbrev rmD_pattern_k : Room := { frames := 2, cells := 0, slots := 0, locals := 42 }
set_option maxRecDepth 100000 in
set_option maxHeartbeats 4000000 in
theorem kD_pattern_k {l : Launch} {D : va_G} {k : ClassId × ClassId × ClassId} {a : Nat → Nat} {B0 : Nat} {w : Nat → va_E} (hA : gA B0 a) {th : Int32} {n : Nat} {nr : Nat} {nf : Nat} {bw : Int32} {bd : Int32} {nt : Nat} (hsD : sD k a w th n nr nf bw bd nt) (x : Int32) (y : Int32) (h1 : szR x) (h2 : rngI y 0 100) : Met l yD_pattern (tbw yD_pattern cD_pattern 3 (some .int)) rmD_pattern_k (gPc D k a B0 w [.ref (a 22), .int x, .int y]) (va_Qi (fun rr9 w1 => rr9 = ((x * (1000 + y) + 999) / 1000) ∧ (sD k a w1 0 n nr nf bw bd nt) ∧ ∀ z, z < 22 ∨ 22 < z → w1 z = w z) (gB D k a) (gF B0)) 0 0 (gF B0) := by
  have hsD22 := hsD
  refine g_ofW (by decide) rfl (fun p e s m args below meth c Q hQ hx hb hr hlk hml hown hts hB hG hK hS ls hl => ?_)
  have hl : lv_has ls 3 [(0, .ref (a 22)), (1, .int x), (2, .int y)] := hl
  have hown : s.vm.findClass RD = some m.cls := hown
  have hfr0 : ∀ z, z < 22 ∨ 22 < z → w z = w z := fun _ _ => rfl
  refine lv_aload_n hx hb dD_pattern_0 rfl (lv_at hl 0 rfl) ?_
  refine lv_iload_n hx hb dD_pattern_1 rfl (lv_at hl 1 rfl) ?_
  refine g_SiR (As := [.int x]) (rest := [.ref (a 22)]) (kD_isSize hA x) calD_isSize cvD_isSize mlD_73 hx hb hml hown hts hB hG hK hS ⟨by decide, by decide⟩ rfl hl.1 rfl (Nat.le_of_ble_eq_true rfl) dD_pattern_2 ⟨by decide, by decide⟩ (fun H locs hG hS => ?_)
  refine lb_if_eq (tgt := 18) hx hb dD_pattern_5 (by decide) (fun h9 => absurd h1 h9) (fun _ => ?_)
  refine lv_iload_n hx hb dD_pattern_8 rfl (lv_at hl 2 rfl) ?_
  refine lv_iconst (v := 0) hx hb dD_pattern_9 (by decide) ?_
  refine lv_bipush (v := 100) hx hb dD_pattern_10 (by decide) ?_
  refine g_SiR (As := [.int y, .int 0, .int 100]) (rest := [.ref (a 22)]) (kD_in hA y 0 100) calD_in cvD_in mlD_66 hx hb hml hown hts hB hG hK hS ⟨by decide, by decide⟩ rfl hl.1 rfl (Nat.le_of_ble_eq_true rfl) dD_pattern_12 ⟨by decide, by decide⟩ (fun H locs hG hS => ?_)
  refine lb_if_ne (tgt := 22) hx hb dD_pattern_15 (by decide) (fun _ => ?_) (fun h9 => absurd h2 h9)
  refine lv_iconst (v := 0) hx hb dD_pattern_22 (by decide) ?_
  refine lv_iconst (v := 0) hx hb dD_pattern_23 (by decide) ?_
  refine lv_iconst (v := 0) hx hb dD_pattern_24 (by decide) ?_
  refine g_Vi (i := 22) (As := [.int 0, .int 0, .int 0]) (rest := []) (kD_throwing hA hsD22 0 0 0) calD_throwing cvD_throwing mlD_77 hx hb hml hown hts hB hG hK hS (by decide) hsD22 rfl ⟨by decide, by decide⟩ rfl hl.1 rfl (Nat.le_of_ble_eq_true rfl) dD_pattern_25 ⟨by decide, by decide⟩ (fun r3 w4 H locs hp5 hG hS => ?_)
  obtain ⟨er7, h6, hfr8⟩ := hp5
  have hfr9 : ∀ z, z < 22 ∨ 22 < z → w4 z = w z := fun z hz => (hfr8 z (by omega)).trans (hfr0 z hz)
  rw [er7]
  refine lb_if_eq (tgt := 33) hx hb dD_pattern_28 (by decide) (fun _ => ?_) (fun h9 => absurd h9 (by decide))
  refine lv_iload_n hx hb dD_pattern_33 rfl (lv_at hl 1 rfl) ?_
  refine lv_sipush (v := 1000) hx hb dD_pattern_34 (by decide) ?_
  refine lv_iload_n hx hb dD_pattern_37 rfl (lv_at hl 2 rfl) ?_
  refine lv_iadd hx hb dD_pattern_38 ?_
  refine lv_imul hx hb dD_pattern_39 ?_
  refine lv_sipush (v := 999) hx hb dD_pattern_40 (by decide) ?_
  refine lv_iadd hx hb dD_pattern_43 ?_
  refine lv_sipush (v := 1000) hx hb dD_pattern_44 (by decide) ?_
  refine lv_idiv hx hb dD_pattern_47 (by decide) ?_
  exact g_iret hQ hx hb hr hlk hG hK hS (by decide) (by decide) ⟨by first | rfl | omega | (simp_all; done) | grind, h6, hfr9⟩ dD_pattern_48

abbrev rmD_molding_z : Room := { frames := 2, cells := 0, slots := 0, locals := 42 }
set_option maxRecDepth 100000 in
set_option maxHeartbeats 4000000 in
theorem kD_molding_z {l : Launch} {D : va_G} {k : ClassId × ClassId × ClassId} {a : Nat → Nat} {B0 : Nat} {w : Nat → va_E} (hA : gA B0 a) {th : Int32} {n : Nat} {nr : Nat} {nf : Nat} {bw : Int32} {bd : Int32} {nt : Nat} (hsD : sD k a w th n nr nf bw bd nt) (x : Int32) (y : Int32) (hz : ¬ (wdR x ∧ wdR y)) : Met l yD_molding (tbw yD_molding cD_molding 3 none) rmD_molding_z (gPc D k a B0 w [.ref (a 22), .int x, .int y]) (va_Qv (fun w1 => (sD k a w1 1 n nr nf bw bd nt) ∧ ∀ z, z < 22 ∨ 22 < z → w1 z = w z) (gB D k a) (gF B0)) 0 0 (gF B0) := by
  have hsD22 := hsD
  refine g_ofW (by decide) rfl (fun p e s m args below meth c Q hQ hx hb hr hlk hml hown hts hB hG hK hS ls hl => ?_)
  have hl : lv_has ls 3 [(0, .ref (a 22)), (1, .int x), (2, .int y)] := hl
  have hown : s.vm.findClass RD = some m.cls := hown
  have hfr0 : ∀ z, z < 22 ∨ 22 < z → w z = w z := fun _ _ => rfl
  refine lv_aload_n hx hb dD_molding_0 rfl (lv_at hl 0 rfl) ?_
  refine lv_iload_n hx hb dD_molding_1 rfl (lv_at hl 1 rfl) ?_
  refine g_SiR (As := [.int x]) (rest := [.ref (a 22)]) (kD_isWide hA x) calD_isWide cvD_isWide mlD_129 hx hb hml hown hts hB hG hK hS ⟨by decide, by decide⟩ rfl hl.1 rfl (Nat.le_of_ble_eq_true rfl) dD_molding_2 ⟨by decide, by decide⟩ (fun H locs hG hS => ?_)
  refine lb_if_eq (tgt := 15) hx hb dD_molding_5 (by decide) (fun c1 => ?_) (fun c1 => ?_)
  · refine lv_iconst (v := 1) hx hb dD_molding_15 (by decide) ?_
    refine lv_goto (tgt := 20) hx hb dD_molding_16 (by decide) ?_
    refine lv_iconst (v := 0) hx hb dD_molding_20 (by decide) ?_
    refine lv_iconst (v := 0) hx hb dD_molding_21 (by decide) ?_
    refine g_Vi (i := 22) (As := [.int 1, .int 0, .int 0]) (rest := []) (kD_throwing hA hsD22 1 0 0) calD_throwing cvD_throwing mlD_77 hx hb hml hown hts hB hG hK hS (by decide) hsD22 rfl ⟨by decide, by decide⟩ rfl hl.1 rfl (Nat.le_of_ble_eq_true rfl) dD_molding_22 ⟨by decide, by decide⟩ (fun r2 w3 H locs hp4 hG hS => ?_)
    obtain ⟨er6, h5, hfr7⟩ := hp4
    have hfr8 : ∀ z, z < 22 ∨ 22 < z → w3 z = w z := fun z hz => (hfr7 z (by omega)).trans (hfr0 z hz)
    rw [er6]
    refine lb_if_eq (tgt := 29) hx hb dD_molding_25 (by decide) (fun h9 => absurd (by decide) h9) (fun _ => ?_)
    exact g_vret hQ hx hb hr hlk hG hK hS (by decide) (by decide) ⟨h5, hfr8⟩ dD_molding_28
  · refine lv_iload_n hx hb dD_molding_8 rfl (lv_at hl 2 rfl) ?_
    refine g_SiR (As := [.int y]) (rest := [.ref (a 22)]) (kD_isWide hA y) calD_isWide cvD_isWide mlD_129 hx hb hml hown hts hB hG hK hS ⟨by decide, by decide⟩ rfl hl.1 rfl (Nat.le_of_ble_eq_true rfl) dD_molding_9 ⟨by decide, by decide⟩ (fun H locs hG hS => ?_)
    refine lb_if_ne (tgt := 19) hx hb dD_molding_12 (by decide) (fun c10 => ?_) (fun c10 => ?_)
    · exact absurd ⟨by assumption, by assumption⟩ hz
    · refine lv_iconst (v := 1) hx hb dD_molding_15 (by decide) ?_
      refine lv_goto (tgt := 20) hx hb dD_molding_16 (by decide) ?_
      refine lv_iconst (v := 0) hx hb dD_molding_20 (by decide) ?_
      refine lv_iconst (v := 0) hx hb dD_molding_21 (by decide) ?_
      refine g_Vi (i := 22) (As := [.int 1, .int 0, .int 0]) (rest := []) (kD_throwing hA hsD22 1 0 0) calD_throwing cvD_throwing mlD_77 hx hb hml hown hts hB hG hK hS (by decide) hsD22 rfl ⟨by decide, by decide⟩ rfl hl.1 rfl (Nat.le_of_ble_eq_true rfl) dD_molding_22 ⟨by decide, by decide⟩ (fun r11 w12 H locs hp13 hG hS => ?_)
      obtain ⟨er15, h14, hfr16⟩ := hp13
      have hfr17 : ∀ z, z < 22 ∨ 22 < z → w12 z = w z := fun z hz => (hfr16 z (by omega)).trans (hfr0 z hz)
      rw [er15]
      refine lb_if_eq (tgt := 29) hx hb dD_molding_25 (by decide) (fun h9 => absurd (by decide) h9) (fun _ => ?_)
      exact g_vret hQ hx hb hr hlk hG hK hS (by decide) (by decide) ⟨h14, hfr17⟩ dD_molding_28

abbrev rmD_molding_k : Room := { frames := 2, cells := 0, slots := 0, locals := 42 }
set_option maxRecDepth 100000 in
set_option maxHeartbeats 4000000 in
theorem kD_molding_k {l : Launch} {D : va_G} {k : ClassId × ClassId × ClassId} {a : Nat → Nat} {B0 : Nat} {w : Nat → va_E} (hA : gA B0 a) {th : Int32} {n : Nat} {nr : Nat} {nf : Nat} {bw : Int32} {bd : Int32} {nt : Nat} (hsD : sD k a w th n nr nf bw bd nt) (x : Int32) (y : Int32) (h1 : wdR x) (h2 : wdR y) : Met l yD_molding (tbw yD_molding cD_molding 3 none) rmD_molding_k (gPc D k a B0 w [.ref (a 22), .int x, .int y]) (va_Qv (fun w1 => (sD k a w1 0 n nr nf x y 0) ∧ ∀ z, z < 22 ∨ 22 < z → w1 z = w z) (gB D k a) (gF B0)) 0 0 (gF B0) := by
  have hsD22 := hsD
  refine g_ofW (by decide) rfl (fun p e s m args below meth c Q hQ hx hb hr hlk hml hown hts hB hG hK hS ls hl => ?_)
  have hl : lv_has ls 3 [(0, .ref (a 22)), (1, .int x), (2, .int y)] := hl
  have hown : s.vm.findClass RD = some m.cls := hown
  have hfr0 : ∀ z, z < 22 ∨ 22 < z → w z = w z := fun _ _ => rfl
  refine lv_aload_n hx hb dD_molding_0 rfl (lv_at hl 0 rfl) ?_
  refine lv_iload_n hx hb dD_molding_1 rfl (lv_at hl 1 rfl) ?_
  refine g_SiR (As := [.int x]) (rest := [.ref (a 22)]) (kD_isWide hA x) calD_isWide cvD_isWide mlD_129 hx hb hml hown hts hB hG hK hS ⟨by decide, by decide⟩ rfl hl.1 rfl (Nat.le_of_ble_eq_true rfl) dD_molding_2 ⟨by decide, by decide⟩ (fun H locs hG hS => ?_)
  refine lb_if_eq (tgt := 15) hx hb dD_molding_5 (by decide) (fun h9 => absurd h1 h9) (fun _ => ?_)
  refine lv_iload_n hx hb dD_molding_8 rfl (lv_at hl 2 rfl) ?_
  refine g_SiR (As := [.int y]) (rest := [.ref (a 22)]) (kD_isWide hA y) calD_isWide cvD_isWide mlD_129 hx hb hml hown hts hB hG hK hS ⟨by decide, by decide⟩ rfl hl.1 rfl (Nat.le_of_ble_eq_true rfl) dD_molding_9 ⟨by decide, by decide⟩ (fun H locs hG hS => ?_)
  refine lb_if_ne (tgt := 19) hx hb dD_molding_12 (by decide) (fun _ => ?_) (fun h9 => absurd h2 h9)
  refine lv_iconst (v := 0) hx hb dD_molding_19 (by decide) ?_
  refine lv_iconst (v := 0) hx hb dD_molding_20 (by decide) ?_
  refine lv_iconst (v := 0) hx hb dD_molding_21 (by decide) ?_
  refine g_Vi (i := 22) (As := [.int 0, .int 0, .int 0]) (rest := []) (kD_throwing hA hsD22 0 0 0) calD_throwing cvD_throwing mlD_77 hx hb hml hown hts hB hG hK hS (by decide) hsD22 rfl ⟨by decide, by decide⟩ rfl hl.1 rfl (Nat.le_of_ble_eq_true rfl) dD_molding_22 ⟨by decide, by decide⟩ (fun r3 w4 H locs hp5 hG hS => ?_)
  obtain ⟨er7, h6, hfr8⟩ := hp5
  have hfr9 : ∀ z, z < 22 ∨ 22 < z → w4 z = w z := fun z hz => (hfr8 z (by omega)).trans (hfr0 z hz)
  rw [er7]
  refine lb_if_eq (tgt := 29) hx hb dD_molding_25 (by decide) (fun _ => ?_) (fun h9 => absurd h9 (by decide))
  refine lv_aload_n hx hb dD_molding_29 rfl (lv_at hl 0 rfl) ?_
  refine lv_iload_n hx hb dD_molding_30 rfl (lv_at hl 1 rfl) ?_
  refine g_put hx hb hts inD tyD tokD nokD hown hK hA hG hS 22 (by decide) h6 rfl 15 (by decide) lkD_44 rfl (ty := .int) (by decide +kernel) rfl rfl (Nat.le_of_ble_eq_true rfl) dD_molding_31 (fun H locs hG hS => ?_)
  obtain ⟨w11, hw12⟩ : ∃ zz9, zz9 = va_up w4 22 (.inr (5, [.int (thrI 0 0 0), .int (nI n), .ref (a 23), .ref (a 24), .ref (a 25), .ref (a 26), .ref (a 27), .ref (a 28), .ref (a 29), .int (nI nr), .ref (a 30), .ref (a 31), .int (nI nf), .ref (a 32), .ref (a 33), .int x, .int bd, .int (nI nt), .ref (a 34), .ref (a 35), .ref (a 36), .ref (a 37)])) := ⟨_, rfl⟩
  replace hG : gW D a w11 H := by rw [hw12]; exact hG
  have h13 : w11 22 = .inr (5, [.int (thrI 0 0 0), .int (nI n), .ref (a 23), .ref (a 24), .ref (a 25), .ref (a 26), .ref (a 27), .ref (a 28), .ref (a 29), .int (nI nr), .ref (a 30), .ref (a 31), .int (nI nf), .ref (a 32), .ref (a 33), .int x, .int bd, .int (nI nt), .ref (a 34), .ref (a 35), .ref (a 36), .ref (a 37)]) := by rw [hw12]; rfl
  have hfr14 : ∀ z, z < 22 ∨ 22 < z → w11 z = w z := fun z hz => by rw [hw12]; exact (va_up_ne _ _ (by omega)).trans (hfr9 z hz)
  refine lv_aload_n hx hb dD_molding_34 rfl (lv_at hl 0 rfl) ?_
  refine lv_iload_n hx hb dD_molding_35 rfl (lv_at hl 2 rfl) ?_
  refine g_put hx hb hts inD tyD tokD nokD hown hK hA hG hS 22 (by decide) h13 rfl 16 (by decide) lkD_48 rfl (ty := .int) (by decide +kernel) rfl rfl (Nat.le_of_ble_eq_true rfl) dD_molding_36 (fun H locs hG hS => ?_)
  obtain ⟨w15, hw16⟩ : ∃ zz9, zz9 = va_up w11 22 (.inr (5, [.int (thrI 0 0 0), .int (nI n), .ref (a 23), .ref (a 24), .ref (a 25), .ref (a 26), .ref (a 27), .ref (a 28), .ref (a 29), .int (nI nr), .ref (a 30), .ref (a 31), .int (nI nf), .ref (a 32), .ref (a 33), .int x, .int y, .int (nI nt), .ref (a 34), .ref (a 35), .ref (a 36), .ref (a 37)])) := ⟨_, rfl⟩
  replace hG : gW D a w15 H := by rw [hw16]; exact hG
  have h17 : w15 22 = .inr (5, [.int (thrI 0 0 0), .int (nI n), .ref (a 23), .ref (a 24), .ref (a 25), .ref (a 26), .ref (a 27), .ref (a 28), .ref (a 29), .int (nI nr), .ref (a 30), .ref (a 31), .int (nI nf), .ref (a 32), .ref (a 33), .int x, .int y, .int (nI nt), .ref (a 34), .ref (a 35), .ref (a 36), .ref (a 37)]) := by rw [hw16]; rfl
  have hfr18 : ∀ z, z < 22 ∨ 22 < z → w15 z = w z := fun z hz => by rw [hw16]; exact (va_up_ne _ _ (by omega)).trans (hfr14 z hz)
  refine lv_aload_n hx hb dD_molding_39 rfl (lv_at hl 0 rfl) ?_
  refine lv_iconst (v := 0) hx hb dD_molding_40 (by decide) ?_
  refine g_put hx hb hts inD tyD tokD nokD hown hK hA hG hS 22 (by decide) h17 rfl 17 (by decide) lkD_132 rfl (ty := .int) (by decide +kernel) rfl rfl (Nat.le_of_ble_eq_true rfl) dD_molding_41 (fun H locs hG hS => ?_)
  obtain ⟨w19, hw20⟩ : ∃ zz9, zz9 = va_up w15 22 (.inr (5, [.int (thrI 0 0 0), .int (nI n), .ref (a 23), .ref (a 24), .ref (a 25), .ref (a 26), .ref (a 27), .ref (a 28), .ref (a 29), .int (nI nr), .ref (a 30), .ref (a 31), .int (nI nf), .ref (a 32), .ref (a 33), .int x, .int y, .int 0, .ref (a 34), .ref (a 35), .ref (a 36), .ref (a 37)])) := ⟨_, rfl⟩
  replace hG : gW D a w19 H := by rw [hw20]; exact hG
  have h21 : w19 22 = .inr (5, [.int (thrI 0 0 0), .int (nI n), .ref (a 23), .ref (a 24), .ref (a 25), .ref (a 26), .ref (a 27), .ref (a 28), .ref (a 29), .int (nI nr), .ref (a 30), .ref (a 31), .int (nI nf), .ref (a 32), .ref (a 33), .int x, .int y, .int 0, .ref (a 34), .ref (a 35), .ref (a 36), .ref (a 37)]) := by rw [hw20]; rfl
  have hfr22 : ∀ z, z < 22 ∨ 22 < z → w19 z = w z := fun z hz => by rw [hw20]; exact (va_up_ne _ _ (by omega)).trans (hfr18 z hz)
  exact g_vret hQ hx hb hr hlk hG hK hS (by decide) (by decide) ⟨h21, hfr22⟩ dD_molding_44

abbrev rmD_pack_f : Room := { frames := 2, cells := 0, slots := 0, locals := 47 }
set_option maxRecDepth 100000 in
set_option maxHeartbeats 4000000 in
theorem kD_pack_f {l : Launch} {D : va_G} {k : ClassId × ClassId × ClassId} {a : Nat → Nat} {B0 : Nat} {w : Nat → va_E} (hA : gA B0 a) {th : Int32} {n : Nat} {nr : Nat} {nf : Nat} {bw : Int32} {bd : Int32} {nt : Nat} {xa : Nat → Int32} {xf : Nat → Int32} {xw : Nat → Int32} {xd : Nat → Int32} (hsD : sD k a w th n nr nf bw bd nt) (hsDM : sDM k a w xa xf xw xd) (x : Int32) (y : Int32) (hn : nt = 40) : Met l yD_pack (tbw yD_pack cD_pack 6 (some .int)) rmD_pack_f (gPc D k a B0 w [.ref (a 22), .int x, .int y]) (va_Qi (fun rr9 w1 => rr9 = 0 ∧ (sD k a w1 1 n nr nf bw bd nt) ∧ (sDM k a w1 xa xf xw xd) ∧ ∀ z, (z < 34 ∨ 37 < z) ∧ z ≠ 22 → w1 z = w z) (gB D k a) (gF B0)) 0 0 (gF B0) := by
  have hsD22 := hsD
  obtain ⟨hsDM34, hsDM35, hsDM36, hsDM37⟩ := hsDM
  refine g_ofW (by decide) rfl (fun p e s m args below meth c Q hQ hx hb hr hlk hml hown hts hB hG hK hS ls hl => ?_)
  have hl : lv_has ls 6 [(0, .ref (a 22)), (1, .int x), (2, .int y)] := hl
  have hown : s.vm.findClass RD = some m.cls := hown
  have hfr0 : ∀ z, (z < 34 ∨ 37 < z) ∧ z ≠ 22 → w z = w z := fun _ _ => rfl
  refine lv_iload_n hx hb dD_pack_0 rfl (lv_at hl 1 rfl) ?_
  refine g_SiR (As := [.int x]) (rest := []) (kD_isWide hA x) calD_isWide cvD_isWide mlD_129 hx hb hml hown hts hB hG hK hS ⟨by decide, by decide⟩ rfl hl.1 rfl (Nat.le_of_ble_eq_true rfl) dD_pack_1 ⟨by decide, by decide⟩ (fun H locs hG hS => ?_)
  refine lb_if_eq (tgt := 14) hx hb dD_pack_4 (by decide) (fun c1 => ?_) (fun c1 => ?_)
  · refine lv_iconst (v := 1) hx hb dD_pack_14 (by decide) ?_
    refine lv_goto (tgt := 19) hx hb dD_pack_15 (by decide) ?_
    refine lv_istore_n (lv' := [(3, .int 1), (0, .ref (a 22)), (1, .int x), (2, .int y)]) hx hb dD_pack_19 rfl hl (by decide) rfl (fun ls hl => ?_)
    refine lv_iload_n hx hb dD_pack_20 rfl (lv_at hl 0 rfl) ?_
    refine lv_if_eq (tgt := 28) hx hb dD_pack_21 (by decide) (fun h9 => absurd h9 (by decide)) (fun _ => ?_)
    refine lv_iconst (v := (-1)) hx hb dD_pack_24 (by decide) ?_
    refine lv_goto (tgt := 34) hx hb dD_pack_25 (by decide) ?_
    refine lv_istore (lv' := [(4, .int (-1)), (3, .int 1), (0, .ref (a 22)), (1, .int x), (2, .int y)]) hx hb dD_pack_34 hl (by decide) rfl (fun ls hl => ?_)
    refine lv_iload hx hb dD_pack_36 (lv_at hl 0 rfl) ?_
    refine lv_if_ge (tgt := 66) hx hb dD_pack_38 (by decide) (fun h9 => absurd h9 (by decide)) (fun _ => ?_)
    refine lv_iload_n hx hb dD_pack_41 rfl (lv_at hl 3 rfl) ?_
    refine lv_aload_n hx hb dD_pack_42 rfl (lv_at hl 2 rfl) ?_
    refine g_get hx hb hts inD hown hK hG 22 (by decide) hsD22 rfl 15 (by decide) lkD_44 rfl dD_pack_43 ?_
    refine lv_icmp_gt (tgt := 62) hx hb dD_pack_46 (by decide) (fun c4 => ?_) (fun c4 => ?_)
    · refine lv_iconst (v := 1) hx hb dD_pack_62 (by decide) ?_
      refine lv_goto (tgt := 67) hx hb dD_pack_63 (by decide) ?_
      refine lv_istore (lv' := [(5, .int 1), (4, .int (-1)), (3, .int 1), (0, .ref (a 22)), (1, .int x), (2, .int y)]) hx hb dD_pack_67 hl (by decide) rfl (fun ls hl => ?_)
      refine lv_aload_n hx hb dD_pack_69 rfl (lv_at hl 3 rfl) ?_
      refine lv_aload_n hx hb dD_pack_70 rfl (lv_at hl 3 rfl) ?_
      refine g_get hx hb hts inD hown hK hG 22 (by decide) hsD22 rfl 17 (by decide) lkD_132 rfl dD_pack_71 ?_
      refine lv_bipush (v := 40) hx hb dD_pack_74 (by decide) ?_
      refine ln_icmp_ne (x := nt) (y := 40) (tgt := 83) hx hb dD_pack_76 (by decide) (by omega) (by decide) (fun c5 => absurd c5 (by omega)) (fun c5 => ?_)
      refine lv_iconst (v := 1) hx hb dD_pack_79 (by decide) ?_
      refine lv_goto (tgt := 84) hx hb dD_pack_80 (by decide) ?_
      refine lv_iload_n hx hb dD_pack_84 rfl (lv_at hl 2 rfl) ?_
      refine lv_iload hx hb dD_pack_85 (lv_at hl 0 rfl) ?_
      refine g_Vi (i := 22) (As := [.int 1, .int 1, .int 1]) (rest := []) (kD_throwing hA hsD22 1 1 1) calD_throwing cvD_throwing mlD_77 hx hb hml hown hts hB hG hK hS (by decide) hsD22 rfl ⟨by decide, by decide⟩ rfl hl.1 rfl (Nat.le_of_ble_eq_true rfl) dD_pack_87 ⟨by decide, by decide⟩ (fun r6 w7 H locs hp8 hG hS => ?_)
      obtain ⟨er10, h9, hfr11⟩ := hp8
      have h12 : w7 34 = .inl (k.1, 40, .inl xa) := (hfr11 34 (by omega)).trans hsDM34
      have h13 : w7 35 = .inl (k.1, 40, .inl xf) := (hfr11 35 (by omega)).trans hsDM35
      have h14 : w7 36 = .inl (k.1, 40, .inl xw) := (hfr11 36 (by omega)).trans hsDM36
      have h15 : w7 37 = .inl (k.1, 40, .inl xd) := (hfr11 37 (by omega)).trans hsDM37
      have hfr16 : ∀ z, (z < 34 ∨ 37 < z) ∧ z ≠ 22 → w7 z = w z := fun z hz => (hfr11 z (by omega)).trans (hfr0 z hz)
      rw [er10]
      refine lb_if_eq (tgt := 95) hx hb dD_pack_90 (by decide) (fun h9 => absurd (by decide) h9) (fun _ => ?_)
      refine lv_iconst (v := 0) hx hb dD_pack_93 (by decide) ?_
      exact g_iret hQ hx hb hr hlk hG hK hS (by decide) (by decide) ⟨by first | rfl | omega | (simp_all; done) | grind, h9, ⟨h12, h13, h14, h15⟩, hfr16⟩ dD_pack_94
    · refine lv_iload_n hx hb dD_pack_49 rfl (lv_at hl 4 rfl) ?_
      refine lv_aload_n hx hb dD_pack_50 rfl (lv_at hl 2 rfl) ?_
      refine g_get hx hb hts inD hown hK hG 22 (by decide) hsD22 rfl 16 (by decide) lkD_48 rfl dD_pack_51 ?_
      refine lv_aload_n hx hb dD_pack_54 rfl (lv_at hl 2 rfl) ?_
      refine g_ViR (i := 22) (As := []) (rest := [.int bd, .int y]) (kD_shelvesEnd hA hsD22 ⟨hsDM34, hsDM35, hsDM36, hsDM37⟩ (by omega)) calD_shelvesEnd cvD_shelvesEnd mlD_141 hx hb hml hown hts hB hG hK hS (by decide) hsD22 rfl ⟨by decide, by decide⟩ rfl hl.1 rfl (Nat.le_of_ble_eq_true rfl) dD_pack_55 ⟨by decide, by decide⟩ (fun H locs hG hS => ?_)
      refine lv_isub hx hb dD_pack_58 ?_
      refine lv_icmp_le (tgt := 66) hx hb dD_pack_59 (by decide) (fun c18 => ?_) (fun c18 => ?_)
      · refine lv_iconst (v := 0) hx hb dD_pack_66 (by decide) ?_
        refine lv_istore (lv' := [(5, .int 0), (4, .int (-1)), (3, .int 1), (0, .ref (a 22)), (1, .int x), (2, .int y)]) hx hb dD_pack_67 hl (by decide) rfl (fun ls hl => ?_)
        refine lv_aload_n hx hb dD_pack_69 rfl (lv_at hl 3 rfl) ?_
        refine lv_aload_n hx hb dD_pack_70 rfl (lv_at hl 3 rfl) ?_
        refine g_get hx hb hts inD hown hK hG 22 (by decide) hsD22 rfl 17 (by decide) lkD_132 rfl dD_pack_71 ?_
        refine lv_bipush (v := 40) hx hb dD_pack_74 (by decide) ?_
        refine ln_icmp_ne (x := nt) (y := 40) (tgt := 83) hx hb dD_pack_76 (by decide) (by omega) (by decide) (fun c19 => absurd c19 (by omega)) (fun c19 => ?_)
        refine lv_iconst (v := 1) hx hb dD_pack_79 (by decide) ?_
        refine lv_goto (tgt := 84) hx hb dD_pack_80 (by decide) ?_
        refine lv_iload_n hx hb dD_pack_84 rfl (lv_at hl 2 rfl) ?_
        refine lv_iload hx hb dD_pack_85 (lv_at hl 0 rfl) ?_
        refine g_Vi (i := 22) (As := [.int 1, .int 1, .int 0]) (rest := []) (kD_throwing hA hsD22 1 1 0) calD_throwing cvD_throwing mlD_77 hx hb hml hown hts hB hG hK hS (by decide) hsD22 rfl ⟨by decide, by decide⟩ rfl hl.1 rfl (Nat.le_of_ble_eq_true rfl) dD_pack_87 ⟨by decide, by decide⟩ (fun r20 w21 H locs hp22 hG hS => ?_)
        obtain ⟨er24, h23, hfr25⟩ := hp22
        have h26 : w21 34 = .inl (k.1, 40, .inl xa) := (hfr25 34 (by omega)).trans hsDM34
        have h27 : w21 35 = .inl (k.1, 40, .inl xf) := (hfr25 35 (by omega)).trans hsDM35
        have h28 : w21 36 = .inl (k.1, 40, .inl xw) := (hfr25 36 (by omega)).trans hsDM36
        have h29 : w21 37 = .inl (k.1, 40, .inl xd) := (hfr25 37 (by omega)).trans hsDM37
        have hfr30 : ∀ z, (z < 34 ∨ 37 < z) ∧ z ≠ 22 → w21 z = w z := fun z hz => (hfr25 z (by omega)).trans (hfr0 z hz)
        rw [er24]
        refine lb_if_eq (tgt := 95) hx hb dD_pack_90 (by decide) (fun h9 => absurd (by decide) h9) (fun _ => ?_)
        refine lv_iconst (v := 0) hx hb dD_pack_93 (by decide) ?_
        exact g_iret hQ hx hb hr hlk hG hK hS (by decide) (by decide) ⟨by first | rfl | omega | (simp_all; done) | grind, h23, ⟨h26, h27, h28, h29⟩, hfr30⟩ dD_pack_94
      · refine lv_iconst (v := 1) hx hb dD_pack_62 (by decide) ?_
        refine lv_goto (tgt := 67) hx hb dD_pack_63 (by decide) ?_
        refine lv_istore (lv' := [(5, .int 1), (4, .int (-1)), (3, .int 1), (0, .ref (a 22)), (1, .int x), (2, .int y)]) hx hb dD_pack_67 hl (by decide) rfl (fun ls hl => ?_)
        refine lv_aload_n hx hb dD_pack_69 rfl (lv_at hl 3 rfl) ?_
        refine lv_aload_n hx hb dD_pack_70 rfl (lv_at hl 3 rfl) ?_
        refine g_get hx hb hts inD hown hK hG 22 (by decide) hsD22 rfl 17 (by decide) lkD_132 rfl dD_pack_71 ?_
        refine lv_bipush (v := 40) hx hb dD_pack_74 (by decide) ?_
        refine ln_icmp_ne (x := nt) (y := 40) (tgt := 83) hx hb dD_pack_76 (by decide) (by omega) (by decide) (fun c32 => absurd c32 (by omega)) (fun c32 => ?_)
        refine lv_iconst (v := 1) hx hb dD_pack_79 (by decide) ?_
        refine lv_goto (tgt := 84) hx hb dD_pack_80 (by decide) ?_
        refine lv_iload_n hx hb dD_pack_84 rfl (lv_at hl 2 rfl) ?_
        refine lv_iload hx hb dD_pack_85 (lv_at hl 0 rfl) ?_
        refine g_Vi (i := 22) (As := [.int 1, .int 1, .int 1]) (rest := []) (kD_throwing hA hsD22 1 1 1) calD_throwing cvD_throwing mlD_77 hx hb hml hown hts hB hG hK hS (by decide) hsD22 rfl ⟨by decide, by decide⟩ rfl hl.1 rfl (Nat.le_of_ble_eq_true rfl) dD_pack_87 ⟨by decide, by decide⟩ (fun r33 w34 H locs hp35 hG hS => ?_)
        obtain ⟨er37, h36, hfr38⟩ := hp35
        have h39 : w34 34 = .inl (k.1, 40, .inl xa) := (hfr38 34 (by omega)).trans hsDM34
        have h40 : w34 35 = .inl (k.1, 40, .inl xf) := (hfr38 35 (by omega)).trans hsDM35
        have h41 : w34 36 = .inl (k.1, 40, .inl xw) := (hfr38 36 (by omega)).trans hsDM36
        have h42 : w34 37 = .inl (k.1, 40, .inl xd) := (hfr38 37 (by omega)).trans hsDM37
        have hfr43 : ∀ z, (z < 34 ∨ 37 < z) ∧ z ≠ 22 → w34 z = w z := fun z hz => (hfr38 z (by omega)).trans (hfr0 z hz)
        rw [er37]
        refine lb_if_eq (tgt := 95) hx hb dD_pack_90 (by decide) (fun h9 => absurd (by decide) h9) (fun _ => ?_)
        refine lv_iconst (v := 0) hx hb dD_pack_93 (by decide) ?_
        exact g_iret hQ hx hb hr hlk hG hK hS (by decide) (by decide) ⟨by first | rfl | omega | (simp_all; done) | grind, h36, ⟨h39, h40, h41, h42⟩, hfr43⟩ dD_pack_94
  · refine lv_iload_n hx hb dD_pack_7 rfl (lv_at hl 2 rfl) ?_
    refine g_SiR (As := [.int y]) (rest := []) (kD_isWide hA y) calD_isWide cvD_isWide mlD_129 hx hb hml hown hts hB hG hK hS ⟨by decide, by decide⟩ rfl hl.1 rfl (Nat.le_of_ble_eq_true rfl) dD_pack_8 ⟨by decide, by decide⟩ (fun H locs hG hS => ?_)
    refine lb_if_ne (tgt := 18) hx hb dD_pack_11 (by decide) (fun c45 => ?_) (fun c45 => ?_)
    · refine lv_iconst (v := 0) hx hb dD_pack_18 (by decide) ?_
      refine lv_istore_n (lv' := [(3, .int 0), (0, .ref (a 22)), (1, .int x), (2, .int y)]) hx hb dD_pack_19 rfl hl (by decide) rfl (fun ls hl => ?_)
      refine lv_iload_n hx hb dD_pack_20 rfl (lv_at hl 0 rfl) ?_
      refine lv_if_eq (tgt := 28) hx hb dD_pack_21 (by decide) (fun _ => ?_) (fun h9 => absurd h9 (by decide))
      refine lv_aload_n hx hb dD_pack_28 rfl (lv_at hl 1 rfl) ?_
      refine lv_iload_n hx hb dD_pack_29 rfl (lv_at hl 2 rfl) ?_
      refine lv_iload_n hx hb dD_pack_30 rfl (lv_at hl 3 rfl) ?_
      refine g_ViR (i := 22) (As := [.int x, .int y]) (rest := []) (kD_shelfFor hA hsD22 ⟨hsDM34, hsDM35, hsDM36, hsDM37⟩ x y (by omega)) calD_shelfFor cvD_shelfFor mlD_138 hx hb hml hown hts hB hG hK hS (by decide) hsD22 rfl ⟨by decide, by decide⟩ rfl hl.1 rfl (Nat.le_of_ble_eq_true rfl) dD_pack_31 ⟨by decide, by decide⟩ (fun H locs hG hS => ?_)
      refine lv_istore (lv' := [(4, .int (fstF (mShP bw xa xf xw xd nt x y) nt 0)), (3, .int 0), (0, .ref (a 22)), (1, .int x), (2, .int y)]) hx hb dD_pack_34 hl (by decide) rfl (fun ls hl => ?_)
      refine lv_iload hx hb dD_pack_36 (lv_at hl 0 rfl) ?_
      refine lv_if_ge (tgt := 66) hx hb dD_pack_38 (by decide) (fun c47 => ?_) (fun c47 => ?_)
      · refine lv_iconst (v := 0) hx hb dD_pack_66 (by decide) ?_
        refine lv_istore (lv' := [(5, .int 0), (4, .int (fstF (mShP bw xa xf xw xd nt x y) nt 0)), (3, .int 0), (0, .ref (a 22)), (1, .int x), (2, .int y)]) hx hb dD_pack_67 hl (by decide) rfl (fun ls hl => ?_)
        refine lv_aload_n hx hb dD_pack_69 rfl (lv_at hl 3 rfl) ?_
        refine lv_aload_n hx hb dD_pack_70 rfl (lv_at hl 3 rfl) ?_
        refine g_get hx hb hts inD hown hK hG 22 (by decide) hsD22 rfl 17 (by decide) lkD_132 rfl dD_pack_71 ?_
        refine lv_bipush (v := 40) hx hb dD_pack_74 (by decide) ?_
        refine ln_icmp_ne (x := nt) (y := 40) (tgt := 83) hx hb dD_pack_76 (by decide) (by omega) (by decide) (fun c48 => absurd c48 (by omega)) (fun c48 => ?_)
        refine lv_iconst (v := 1) hx hb dD_pack_79 (by decide) ?_
        refine lv_goto (tgt := 84) hx hb dD_pack_80 (by decide) ?_
        refine lv_iload_n hx hb dD_pack_84 rfl (lv_at hl 2 rfl) ?_
        refine lv_iload hx hb dD_pack_85 (lv_at hl 0 rfl) ?_
        refine g_Vi (i := 22) (As := [.int 1, .int 0, .int 0]) (rest := []) (kD_throwing hA hsD22 1 0 0) calD_throwing cvD_throwing mlD_77 hx hb hml hown hts hB hG hK hS (by decide) hsD22 rfl ⟨by decide, by decide⟩ rfl hl.1 rfl (Nat.le_of_ble_eq_true rfl) dD_pack_87 ⟨by decide, by decide⟩ (fun r49 w50 H locs hp51 hG hS => ?_)
        obtain ⟨er53, h52, hfr54⟩ := hp51
        have h55 : w50 34 = .inl (k.1, 40, .inl xa) := (hfr54 34 (by omega)).trans hsDM34
        have h56 : w50 35 = .inl (k.1, 40, .inl xf) := (hfr54 35 (by omega)).trans hsDM35
        have h57 : w50 36 = .inl (k.1, 40, .inl xw) := (hfr54 36 (by omega)).trans hsDM36
        have h58 : w50 37 = .inl (k.1, 40, .inl xd) := (hfr54 37 (by omega)).trans hsDM37
        have hfr59 : ∀ z, (z < 34 ∨ 37 < z) ∧ z ≠ 22 → w50 z = w z := fun z hz => (hfr54 z (by omega)).trans (hfr0 z hz)
        rw [er53]
        refine lb_if_eq (tgt := 95) hx hb dD_pack_90 (by decide) (fun h9 => absurd (by decide) h9) (fun _ => ?_)
        refine lv_iconst (v := 0) hx hb dD_pack_93 (by decide) ?_
        exact g_iret hQ hx hb hr hlk hG hK hS (by decide) (by decide) ⟨by first | rfl | omega | (simp_all; done) | grind, h52, ⟨h55, h56, h57, h58⟩, hfr59⟩ dD_pack_94
      · refine lv_iload_n hx hb dD_pack_41 rfl (lv_at hl 3 rfl) ?_
        refine lv_aload_n hx hb dD_pack_42 rfl (lv_at hl 2 rfl) ?_
        refine g_get hx hb hts inD hown hK hG 22 (by decide) hsD22 rfl 15 (by decide) lkD_44 rfl dD_pack_43 ?_
        refine lv_icmp_gt (tgt := 62) hx hb dD_pack_46 (by decide) (fun c61 => ?_) (fun c61 => ?_)
        · refine lv_iconst (v := 1) hx hb dD_pack_62 (by decide) ?_
          refine lv_goto (tgt := 67) hx hb dD_pack_63 (by decide) ?_
          refine lv_istore (lv' := [(5, .int 1), (4, .int (fstF (mShP bw xa xf xw xd nt x y) nt 0)), (3, .int 0), (0, .ref (a 22)), (1, .int x), (2, .int y)]) hx hb dD_pack_67 hl (by decide) rfl (fun ls hl => ?_)
          refine lv_aload_n hx hb dD_pack_69 rfl (lv_at hl 3 rfl) ?_
          refine lv_aload_n hx hb dD_pack_70 rfl (lv_at hl 3 rfl) ?_
          refine g_get hx hb hts inD hown hK hG 22 (by decide) hsD22 rfl 17 (by decide) lkD_132 rfl dD_pack_71 ?_
          refine lv_bipush (v := 40) hx hb dD_pack_74 (by decide) ?_
          refine ln_icmp_ne (x := nt) (y := 40) (tgt := 83) hx hb dD_pack_76 (by decide) (by omega) (by decide) (fun c62 => absurd c62 (by omega)) (fun c62 => ?_)
          refine lv_iconst (v := 1) hx hb dD_pack_79 (by decide) ?_
          refine lv_goto (tgt := 84) hx hb dD_pack_80 (by decide) ?_
          refine lv_iload_n hx hb dD_pack_84 rfl (lv_at hl 2 rfl) ?_
          refine lv_iload hx hb dD_pack_85 (lv_at hl 0 rfl) ?_
          refine g_Vi (i := 22) (As := [.int 1, .int 0, .int 1]) (rest := []) (kD_throwing hA hsD22 1 0 1) calD_throwing cvD_throwing mlD_77 hx hb hml hown hts hB hG hK hS (by decide) hsD22 rfl ⟨by decide, by decide⟩ rfl hl.1 rfl (Nat.le_of_ble_eq_true rfl) dD_pack_87 ⟨by decide, by decide⟩ (fun r63 w64 H locs hp65 hG hS => ?_)
          obtain ⟨er67, h66, hfr68⟩ := hp65
          have h69 : w64 34 = .inl (k.1, 40, .inl xa) := (hfr68 34 (by omega)).trans hsDM34
          have h70 : w64 35 = .inl (k.1, 40, .inl xf) := (hfr68 35 (by omega)).trans hsDM35
          have h71 : w64 36 = .inl (k.1, 40, .inl xw) := (hfr68 36 (by omega)).trans hsDM36
          have h72 : w64 37 = .inl (k.1, 40, .inl xd) := (hfr68 37 (by omega)).trans hsDM37
          have hfr73 : ∀ z, (z < 34 ∨ 37 < z) ∧ z ≠ 22 → w64 z = w z := fun z hz => (hfr68 z (by omega)).trans (hfr0 z hz)
          rw [er67]
          refine lb_if_eq (tgt := 95) hx hb dD_pack_90 (by decide) (fun h9 => absurd (by decide) h9) (fun _ => ?_)
          refine lv_iconst (v := 0) hx hb dD_pack_93 (by decide) ?_
          exact g_iret hQ hx hb hr hlk hG hK hS (by decide) (by decide) ⟨by first | rfl | omega | (simp_all; done) | grind, h66, ⟨h69, h70, h71, h72⟩, hfr73⟩ dD_pack_94
        · refine lv_iload_n hx hb dD_pack_49 rfl (lv_at hl 4 rfl) ?_
          refine lv_aload_n hx hb dD_pack_50 rfl (lv_at hl 2 rfl) ?_
          refine g_get hx hb hts inD hown hK hG 22 (by decide) hsD22 rfl 16 (by decide) lkD_48 rfl dD_pack_51 ?_
          refine lv_aload_n hx hb dD_pack_54 rfl (lv_at hl 2 rfl) ?_
          refine g_ViR (i := 22) (As := []) (rest := [.int bd, .int y]) (kD_shelvesEnd hA hsD22 ⟨hsDM34, hsDM35, hsDM36, hsDM37⟩ (by omega)) calD_shelvesEnd cvD_shelvesEnd mlD_141 hx hb hml hown hts hB hG hK hS (by decide) hsD22 rfl ⟨by decide, by decide⟩ rfl hl.1 rfl (Nat.le_of_ble_eq_true rfl) dD_pack_55 ⟨by decide, by decide⟩ (fun H locs hG hS => ?_)
          refine lv_isub hx hb dD_pack_58 ?_
          refine lv_icmp_le (tgt := 66) hx hb dD_pack_59 (by decide) (fun c75 => ?_) (fun c75 => ?_)
          · refine lv_iconst (v := 0) hx hb dD_pack_66 (by decide) ?_
            refine lv_istore (lv' := [(5, .int 0), (4, .int (fstF (mShP bw xa xf xw xd nt x y) nt 0)), (3, .int 0), (0, .ref (a 22)), (1, .int x), (2, .int y)]) hx hb dD_pack_67 hl (by decide) rfl (fun ls hl => ?_)
            refine lv_aload_n hx hb dD_pack_69 rfl (lv_at hl 3 rfl) ?_
            refine lv_aload_n hx hb dD_pack_70 rfl (lv_at hl 3 rfl) ?_
            refine g_get hx hb hts inD hown hK hG 22 (by decide) hsD22 rfl 17 (by decide) lkD_132 rfl dD_pack_71 ?_
            refine lv_bipush (v := 40) hx hb dD_pack_74 (by decide) ?_
            refine ln_icmp_ne (x := nt) (y := 40) (tgt := 83) hx hb dD_pack_76 (by decide) (by omega) (by decide) (fun c76 => absurd c76 (by omega)) (fun c76 => ?_)
            refine lv_iconst (v := 1) hx hb dD_pack_79 (by decide) ?_
            refine lv_goto (tgt := 84) hx hb dD_pack_80 (by decide) ?_
            refine lv_iload_n hx hb dD_pack_84 rfl (lv_at hl 2 rfl) ?_
            refine lv_iload hx hb dD_pack_85 (lv_at hl 0 rfl) ?_
            refine g_Vi (i := 22) (As := [.int 1, .int 0, .int 0]) (rest := []) (kD_throwing hA hsD22 1 0 0) calD_throwing cvD_throwing mlD_77 hx hb hml hown hts hB hG hK hS (by decide) hsD22 rfl ⟨by decide, by decide⟩ rfl hl.1 rfl (Nat.le_of_ble_eq_true rfl) dD_pack_87 ⟨by decide, by decide⟩ (fun r77 w78 H locs hp79 hG hS => ?_)
            obtain ⟨er81, h80, hfr82⟩ := hp79
            have h83 : w78 34 = .inl (k.1, 40, .inl xa) := (hfr82 34 (by omega)).trans hsDM34
            have h84 : w78 35 = .inl (k.1, 40, .inl xf) := (hfr82 35 (by omega)).trans hsDM35
            have h85 : w78 36 = .inl (k.1, 40, .inl xw) := (hfr82 36 (by omega)).trans hsDM36
            have h86 : w78 37 = .inl (k.1, 40, .inl xd) := (hfr82 37 (by omega)).trans hsDM37
            have hfr87 : ∀ z, (z < 34 ∨ 37 < z) ∧ z ≠ 22 → w78 z = w z := fun z hz => (hfr82 z (by omega)).trans (hfr0 z hz)
            rw [er81]
            refine lb_if_eq (tgt := 95) hx hb dD_pack_90 (by decide) (fun h9 => absurd (by decide) h9) (fun _ => ?_)
            refine lv_iconst (v := 0) hx hb dD_pack_93 (by decide) ?_
            exact g_iret hQ hx hb hr hlk hG hK hS (by decide) (by decide) ⟨by first | rfl | omega | (simp_all; done) | grind, h80, ⟨h83, h84, h85, h86⟩, hfr87⟩ dD_pack_94
          · refine lv_iconst (v := 1) hx hb dD_pack_62 (by decide) ?_
            refine lv_goto (tgt := 67) hx hb dD_pack_63 (by decide) ?_
            refine lv_istore (lv' := [(5, .int 1), (4, .int (fstF (mShP bw xa xf xw xd nt x y) nt 0)), (3, .int 0), (0, .ref (a 22)), (1, .int x), (2, .int y)]) hx hb dD_pack_67 hl (by decide) rfl (fun ls hl => ?_)
            refine lv_aload_n hx hb dD_pack_69 rfl (lv_at hl 3 rfl) ?_
            refine lv_aload_n hx hb dD_pack_70 rfl (lv_at hl 3 rfl) ?_
            refine g_get hx hb hts inD hown hK hG 22 (by decide) hsD22 rfl 17 (by decide) lkD_132 rfl dD_pack_71 ?_
            refine lv_bipush (v := 40) hx hb dD_pack_74 (by decide) ?_
            refine ln_icmp_ne (x := nt) (y := 40) (tgt := 83) hx hb dD_pack_76 (by decide) (by omega) (by decide) (fun c89 => absurd c89 (by omega)) (fun c89 => ?_)
            refine lv_iconst (v := 1) hx hb dD_pack_79 (by decide) ?_
            refine lv_goto (tgt := 84) hx hb dD_pack_80 (by decide) ?_
            refine lv_iload_n hx hb dD_pack_84 rfl (lv_at hl 2 rfl) ?_
            refine lv_iload hx hb dD_pack_85 (lv_at hl 0 rfl) ?_
            refine g_Vi (i := 22) (As := [.int 1, .int 0, .int 1]) (rest := []) (kD_throwing hA hsD22 1 0 1) calD_throwing cvD_throwing mlD_77 hx hb hml hown hts hB hG hK hS (by decide) hsD22 rfl ⟨by decide, by decide⟩ rfl hl.1 rfl (Nat.le_of_ble_eq_true rfl) dD_pack_87 ⟨by decide, by decide⟩ (fun r90 w91 H locs hp92 hG hS => ?_)
            obtain ⟨er94, h93, hfr95⟩ := hp92
            have h96 : w91 34 = .inl (k.1, 40, .inl xa) := (hfr95 34 (by omega)).trans hsDM34
            have h97 : w91 35 = .inl (k.1, 40, .inl xf) := (hfr95 35 (by omega)).trans hsDM35
            have h98 : w91 36 = .inl (k.1, 40, .inl xw) := (hfr95 36 (by omega)).trans hsDM36
            have h99 : w91 37 = .inl (k.1, 40, .inl xd) := (hfr95 37 (by omega)).trans hsDM37
            have hfr100 : ∀ z, (z < 34 ∨ 37 < z) ∧ z ≠ 22 → w91 z = w z := fun z hz => (hfr95 z (by omega)).trans (hfr0 z hz)
            rw [er94]
            refine lb_if_eq (tgt := 95) hx hb dD_pack_90 (by decide) (fun h9 => absurd (by decide) h9) (fun _ => ?_)
            refine lv_iconst (v := 0) hx hb dD_pack_93 (by decide) ?_
            exact g_iret hQ hx hb hr hlk hG hK hS (by decide) (by decide) ⟨by first | rfl | omega | (simp_all; done) | grind, h93, ⟨h96, h97, h98, h99⟩, hfr100⟩ dD_pack_94
    · refine lv_iconst (v := 1) hx hb dD_pack_14 (by decide) ?_
      refine lv_goto (tgt := 19) hx hb dD_pack_15 (by decide) ?_
      refine lv_istore_n (lv' := [(3, .int 1), (0, .ref (a 22)), (1, .int x), (2, .int y)]) hx hb dD_pack_19 rfl hl (by decide) rfl (fun ls hl => ?_)
      refine lv_iload_n hx hb dD_pack_20 rfl (lv_at hl 0 rfl) ?_
      refine lv_if_eq (tgt := 28) hx hb dD_pack_21 (by decide) (fun h9 => absurd h9 (by decide)) (fun _ => ?_)
      refine lv_iconst (v := (-1)) hx hb dD_pack_24 (by decide) ?_
      refine lv_goto (tgt := 34) hx hb dD_pack_25 (by decide) ?_
      refine lv_istore (lv' := [(4, .int (-1)), (3, .int 1), (0, .ref (a 22)), (1, .int x), (2, .int y)]) hx hb dD_pack_34 hl (by decide) rfl (fun ls hl => ?_)
      refine lv_iload hx hb dD_pack_36 (lv_at hl 0 rfl) ?_
      refine lv_if_ge (tgt := 66) hx hb dD_pack_38 (by decide) (fun h9 => absurd h9 (by decide)) (fun _ => ?_)
      refine lv_iload_n hx hb dD_pack_41 rfl (lv_at hl 3 rfl) ?_
      refine lv_aload_n hx hb dD_pack_42 rfl (lv_at hl 2 rfl) ?_
      refine g_get hx hb hts inD hown hK hG 22 (by decide) hsD22 rfl 15 (by decide) lkD_44 rfl dD_pack_43 ?_
      refine lv_icmp_gt (tgt := 62) hx hb dD_pack_46 (by decide) (fun c104 => ?_) (fun c104 => ?_)
      · refine lv_iconst (v := 1) hx hb dD_pack_62 (by decide) ?_
        refine lv_goto (tgt := 67) hx hb dD_pack_63 (by decide) ?_
        refine lv_istore (lv' := [(5, .int 1), (4, .int (-1)), (3, .int 1), (0, .ref (a 22)), (1, .int x), (2, .int y)]) hx hb dD_pack_67 hl (by decide) rfl (fun ls hl => ?_)
        refine lv_aload_n hx hb dD_pack_69 rfl (lv_at hl 3 rfl) ?_
        refine lv_aload_n hx hb dD_pack_70 rfl (lv_at hl 3 rfl) ?_
        refine g_get hx hb hts inD hown hK hG 22 (by decide) hsD22 rfl 17 (by decide) lkD_132 rfl dD_pack_71 ?_
        refine lv_bipush (v := 40) hx hb dD_pack_74 (by decide) ?_
        refine ln_icmp_ne (x := nt) (y := 40) (tgt := 83) hx hb dD_pack_76 (by decide) (by omega) (by decide) (fun c105 => absurd c105 (by omega)) (fun c105 => ?_)
        refine lv_iconst (v := 1) hx hb dD_pack_79 (by decide) ?_
        refine lv_goto (tgt := 84) hx hb dD_pack_80 (by decide) ?_
        refine lv_iload_n hx hb dD_pack_84 rfl (lv_at hl 2 rfl) ?_
        refine lv_iload hx hb dD_pack_85 (lv_at hl 0 rfl) ?_
        refine g_Vi (i := 22) (As := [.int 1, .int 1, .int 1]) (rest := []) (kD_throwing hA hsD22 1 1 1) calD_throwing cvD_throwing mlD_77 hx hb hml hown hts hB hG hK hS (by decide) hsD22 rfl ⟨by decide, by decide⟩ rfl hl.1 rfl (Nat.le_of_ble_eq_true rfl) dD_pack_87 ⟨by decide, by decide⟩ (fun r106 w107 H locs hp108 hG hS => ?_)
        obtain ⟨er110, h109, hfr111⟩ := hp108
        have h112 : w107 34 = .inl (k.1, 40, .inl xa) := (hfr111 34 (by omega)).trans hsDM34
        have h113 : w107 35 = .inl (k.1, 40, .inl xf) := (hfr111 35 (by omega)).trans hsDM35
        have h114 : w107 36 = .inl (k.1, 40, .inl xw) := (hfr111 36 (by omega)).trans hsDM36
        have h115 : w107 37 = .inl (k.1, 40, .inl xd) := (hfr111 37 (by omega)).trans hsDM37
        have hfr116 : ∀ z, (z < 34 ∨ 37 < z) ∧ z ≠ 22 → w107 z = w z := fun z hz => (hfr111 z (by omega)).trans (hfr0 z hz)
        rw [er110]
        refine lb_if_eq (tgt := 95) hx hb dD_pack_90 (by decide) (fun h9 => absurd (by decide) h9) (fun _ => ?_)
        refine lv_iconst (v := 0) hx hb dD_pack_93 (by decide) ?_
        exact g_iret hQ hx hb hr hlk hG hK hS (by decide) (by decide) ⟨by first | rfl | omega | (simp_all; done) | grind, h109, ⟨h112, h113, h114, h115⟩, hfr116⟩ dD_pack_94
      · refine lv_iload_n hx hb dD_pack_49 rfl (lv_at hl 4 rfl) ?_
        refine lv_aload_n hx hb dD_pack_50 rfl (lv_at hl 2 rfl) ?_
        refine g_get hx hb hts inD hown hK hG 22 (by decide) hsD22 rfl 16 (by decide) lkD_48 rfl dD_pack_51 ?_
        refine lv_aload_n hx hb dD_pack_54 rfl (lv_at hl 2 rfl) ?_
        refine g_ViR (i := 22) (As := []) (rest := [.int bd, .int y]) (kD_shelvesEnd hA hsD22 ⟨hsDM34, hsDM35, hsDM36, hsDM37⟩ (by omega)) calD_shelvesEnd cvD_shelvesEnd mlD_141 hx hb hml hown hts hB hG hK hS (by decide) hsD22 rfl ⟨by decide, by decide⟩ rfl hl.1 rfl (Nat.le_of_ble_eq_true rfl) dD_pack_55 ⟨by decide, by decide⟩ (fun H locs hG hS => ?_)
        refine lv_isub hx hb dD_pack_58 ?_
        refine lv_icmp_le (tgt := 66) hx hb dD_pack_59 (by decide) (fun c118 => ?_) (fun c118 => ?_)
        · refine lv_iconst (v := 0) hx hb dD_pack_66 (by decide) ?_
          refine lv_istore (lv' := [(5, .int 0), (4, .int (-1)), (3, .int 1), (0, .ref (a 22)), (1, .int x), (2, .int y)]) hx hb dD_pack_67 hl (by decide) rfl (fun ls hl => ?_)
          refine lv_aload_n hx hb dD_pack_69 rfl (lv_at hl 3 rfl) ?_
          refine lv_aload_n hx hb dD_pack_70 rfl (lv_at hl 3 rfl) ?_
          refine g_get hx hb hts inD hown hK hG 22 (by decide) hsD22 rfl 17 (by decide) lkD_132 rfl dD_pack_71 ?_
          refine lv_bipush (v := 40) hx hb dD_pack_74 (by decide) ?_
          refine ln_icmp_ne (x := nt) (y := 40) (tgt := 83) hx hb dD_pack_76 (by decide) (by omega) (by decide) (fun c119 => absurd c119 (by omega)) (fun c119 => ?_)
          refine lv_iconst (v := 1) hx hb dD_pack_79 (by decide) ?_
          refine lv_goto (tgt := 84) hx hb dD_pack_80 (by decide) ?_
          refine lv_iload_n hx hb dD_pack_84 rfl (lv_at hl 2 rfl) ?_
          refine lv_iload hx hb dD_pack_85 (lv_at hl 0 rfl) ?_
          refine g_Vi (i := 22) (As := [.int 1, .int 1, .int 0]) (rest := []) (kD_throwing hA hsD22 1 1 0) calD_throwing cvD_throwing mlD_77 hx hb hml hown hts hB hG hK hS (by decide) hsD22 rfl ⟨by decide, by decide⟩ rfl hl.1 rfl (Nat.le_of_ble_eq_true rfl) dD_pack_87 ⟨by decide, by decide⟩ (fun r120 w121 H locs hp122 hG hS => ?_)
          obtain ⟨er124, h123, hfr125⟩ := hp122
          have h126 : w121 34 = .inl (k.1, 40, .inl xa) := (hfr125 34 (by omega)).trans hsDM34
          have h127 : w121 35 = .inl (k.1, 40, .inl xf) := (hfr125 35 (by omega)).trans hsDM35
          have h128 : w121 36 = .inl (k.1, 40, .inl xw) := (hfr125 36 (by omega)).trans hsDM36
          have h129 : w121 37 = .inl (k.1, 40, .inl xd) := (hfr125 37 (by omega)).trans hsDM37
          have hfr130 : ∀ z, (z < 34 ∨ 37 < z) ∧ z ≠ 22 → w121 z = w z := fun z hz => (hfr125 z (by omega)).trans (hfr0 z hz)
          rw [er124]
          refine lb_if_eq (tgt := 95) hx hb dD_pack_90 (by decide) (fun h9 => absurd (by decide) h9) (fun _ => ?_)
          refine lv_iconst (v := 0) hx hb dD_pack_93 (by decide) ?_
          exact g_iret hQ hx hb hr hlk hG hK hS (by decide) (by decide) ⟨by first | rfl | omega | (simp_all; done) | grind, h123, ⟨h126, h127, h128, h129⟩, hfr130⟩ dD_pack_94
        · refine lv_iconst (v := 1) hx hb dD_pack_62 (by decide) ?_
          refine lv_goto (tgt := 67) hx hb dD_pack_63 (by decide) ?_
          refine lv_istore (lv' := [(5, .int 1), (4, .int (-1)), (3, .int 1), (0, .ref (a 22)), (1, .int x), (2, .int y)]) hx hb dD_pack_67 hl (by decide) rfl (fun ls hl => ?_)
          refine lv_aload_n hx hb dD_pack_69 rfl (lv_at hl 3 rfl) ?_
          refine lv_aload_n hx hb dD_pack_70 rfl (lv_at hl 3 rfl) ?_
          refine g_get hx hb hts inD hown hK hG 22 (by decide) hsD22 rfl 17 (by decide) lkD_132 rfl dD_pack_71 ?_
          refine lv_bipush (v := 40) hx hb dD_pack_74 (by decide) ?_
          refine ln_icmp_ne (x := nt) (y := 40) (tgt := 83) hx hb dD_pack_76 (by decide) (by omega) (by decide) (fun c132 => absurd c132 (by omega)) (fun c132 => ?_)
          refine lv_iconst (v := 1) hx hb dD_pack_79 (by decide) ?_
          refine lv_goto (tgt := 84) hx hb dD_pack_80 (by decide) ?_
          refine lv_iload_n hx hb dD_pack_84 rfl (lv_at hl 2 rfl) ?_
          refine lv_iload hx hb dD_pack_85 (lv_at hl 0 rfl) ?_
          refine g_Vi (i := 22) (As := [.int 1, .int 1, .int 1]) (rest := []) (kD_throwing hA hsD22 1 1 1) calD_throwing cvD_throwing mlD_77 hx hb hml hown hts hB hG hK hS (by decide) hsD22 rfl ⟨by decide, by decide⟩ rfl hl.1 rfl (Nat.le_of_ble_eq_true rfl) dD_pack_87 ⟨by decide, by decide⟩ (fun r133 w134 H locs hp135 hG hS => ?_)
          obtain ⟨er137, h136, hfr138⟩ := hp135
          have h139 : w134 34 = .inl (k.1, 40, .inl xa) := (hfr138 34 (by omega)).trans hsDM34
          have h140 : w134 35 = .inl (k.1, 40, .inl xf) := (hfr138 35 (by omega)).trans hsDM35
          have h141 : w134 36 = .inl (k.1, 40, .inl xw) := (hfr138 36 (by omega)).trans hsDM36
          have h142 : w134 37 = .inl (k.1, 40, .inl xd) := (hfr138 37 (by omega)).trans hsDM37
          have hfr143 : ∀ z, (z < 34 ∨ 37 < z) ∧ z ≠ 22 → w134 z = w z := fun z hz => (hfr138 z (by omega)).trans (hfr0 z hz)
          rw [er137]
          refine lb_if_eq (tgt := 95) hx hb dD_pack_90 (by decide) (fun h9 => absurd (by decide) h9) (fun _ => ?_)
          refine lv_iconst (v := 0) hx hb dD_pack_93 (by decide) ?_
          exact g_iret hQ hx hb hr hlk hG hK hS (by decide) (by decide) ⟨by first | rfl | omega | (simp_all; done) | grind, h136, ⟨h139, h140, h141, h142⟩, hfr143⟩ dD_pack_94

abbrev rmD_pack_z : Room := { frames := 2, cells := 0, slots := 0, locals := 47 }
set_option maxRecDepth 100000 in
set_option maxHeartbeats 4000000 in
theorem kD_pack_z {l : Launch} {D : va_G} {k : ClassId × ClassId × ClassId} {a : Nat → Nat} {B0 : Nat} {w : Nat → va_E} (hA : gA B0 a) {th : Int32} {n : Nat} {nr : Nat} {nf : Nat} {bw : Int32} {bd : Int32} {nt : Nat} {xa : Nat → Int32} {xf : Nat → Int32} {xw : Nat → Int32} {xd : Nat → Int32} (hsD : sD k a w th n nr nf bw bd nt) (hsDM : sDM k a w xa xf xw xd) (x : Int32) (y : Int32) (hn : nt < 40) (hz : ¬ (wdR x ∧ wdR y)) : Met l yD_pack (tbw yD_pack cD_pack 6 (some .int)) rmD_pack_z (gPc D k a B0 w [.ref (a 22), .int x, .int y]) (va_Qi (fun rr9 w1 => rr9 = 0 ∧ (sD k a w1 2 n nr nf bw bd nt) ∧ (sDM k a w1 xa xf xw xd) ∧ ∀ z, (z < 34 ∨ 37 < z) ∧ z ≠ 22 → w1 z = w z) (gB D k a) (gF B0)) 0 0 (gF B0) := by
  have hsD22 := hsD
  obtain ⟨hsDM34, hsDM35, hsDM36, hsDM37⟩ := hsDM
  refine g_ofW (by decide) rfl (fun p e s m args below meth c Q hQ hx hb hr hlk hml hown hts hB hG hK hS ls hl => ?_)
  have hl : lv_has ls 6 [(0, .ref (a 22)), (1, .int x), (2, .int y)] := hl
  have hown : s.vm.findClass RD = some m.cls := hown
  have hfr0 : ∀ z, (z < 34 ∨ 37 < z) ∧ z ≠ 22 → w z = w z := fun _ _ => rfl
  refine lv_iload_n hx hb dD_pack_0 rfl (lv_at hl 1 rfl) ?_
  refine g_SiR (As := [.int x]) (rest := []) (kD_isWide hA x) calD_isWide cvD_isWide mlD_129 hx hb hml hown hts hB hG hK hS ⟨by decide, by decide⟩ rfl hl.1 rfl (Nat.le_of_ble_eq_true rfl) dD_pack_1 ⟨by decide, by decide⟩ (fun H locs hG hS => ?_)
  refine lb_if_eq (tgt := 14) hx hb dD_pack_4 (by decide) (fun c1 => ?_) (fun c1 => ?_)
  · refine lv_iconst (v := 1) hx hb dD_pack_14 (by decide) ?_
    refine lv_goto (tgt := 19) hx hb dD_pack_15 (by decide) ?_
    refine lv_istore_n (lv' := [(3, .int 1), (0, .ref (a 22)), (1, .int x), (2, .int y)]) hx hb dD_pack_19 rfl hl (by decide) rfl (fun ls hl => ?_)
    refine lv_iload_n hx hb dD_pack_20 rfl (lv_at hl 0 rfl) ?_
    refine lv_if_eq (tgt := 28) hx hb dD_pack_21 (by decide) (fun h9 => absurd h9 (by decide)) (fun _ => ?_)
    refine lv_iconst (v := (-1)) hx hb dD_pack_24 (by decide) ?_
    refine lv_goto (tgt := 34) hx hb dD_pack_25 (by decide) ?_
    refine lv_istore (lv' := [(4, .int (-1)), (3, .int 1), (0, .ref (a 22)), (1, .int x), (2, .int y)]) hx hb dD_pack_34 hl (by decide) rfl (fun ls hl => ?_)
    refine lv_iload hx hb dD_pack_36 (lv_at hl 0 rfl) ?_
    refine lv_if_ge (tgt := 66) hx hb dD_pack_38 (by decide) (fun h9 => absurd h9 (by decide)) (fun _ => ?_)
    refine lv_iload_n hx hb dD_pack_41 rfl (lv_at hl 3 rfl) ?_
    refine lv_aload_n hx hb dD_pack_42 rfl (lv_at hl 2 rfl) ?_
    refine g_get hx hb hts inD hown hK hG 22 (by decide) hsD22 rfl 15 (by decide) lkD_44 rfl dD_pack_43 ?_
    refine lv_icmp_gt (tgt := 62) hx hb dD_pack_46 (by decide) (fun c4 => ?_) (fun c4 => ?_)
    · refine lv_iconst (v := 1) hx hb dD_pack_62 (by decide) ?_
      refine lv_goto (tgt := 67) hx hb dD_pack_63 (by decide) ?_
      refine lv_istore (lv' := [(5, .int 1), (4, .int (-1)), (3, .int 1), (0, .ref (a 22)), (1, .int x), (2, .int y)]) hx hb dD_pack_67 hl (by decide) rfl (fun ls hl => ?_)
      refine lv_aload_n hx hb dD_pack_69 rfl (lv_at hl 3 rfl) ?_
      refine lv_aload_n hx hb dD_pack_70 rfl (lv_at hl 3 rfl) ?_
      refine g_get hx hb hts inD hown hK hG 22 (by decide) hsD22 rfl 17 (by decide) lkD_132 rfl dD_pack_71 ?_
      refine lv_bipush (v := 40) hx hb dD_pack_74 (by decide) ?_
      refine ln_icmp_ne (x := nt) (y := 40) (tgt := 83) hx hb dD_pack_76 (by decide) (by omega) (by decide) (fun c5 => ?_) (fun c5 => absurd c5 (by omega))
      refine lv_iconst (v := 0) hx hb dD_pack_83 (by decide) ?_
      refine lv_iload_n hx hb dD_pack_84 rfl (lv_at hl 2 rfl) ?_
      refine lv_iload hx hb dD_pack_85 (lv_at hl 0 rfl) ?_
      refine g_Vi (i := 22) (As := [.int 0, .int 1, .int 1]) (rest := []) (kD_throwing hA hsD22 0 1 1) calD_throwing cvD_throwing mlD_77 hx hb hml hown hts hB hG hK hS (by decide) hsD22 rfl ⟨by decide, by decide⟩ rfl hl.1 rfl (Nat.le_of_ble_eq_true rfl) dD_pack_87 ⟨by decide, by decide⟩ (fun r6 w7 H locs hp8 hG hS => ?_)
      obtain ⟨er10, h9, hfr11⟩ := hp8
      have h12 : w7 34 = .inl (k.1, 40, .inl xa) := (hfr11 34 (by omega)).trans hsDM34
      have h13 : w7 35 = .inl (k.1, 40, .inl xf) := (hfr11 35 (by omega)).trans hsDM35
      have h14 : w7 36 = .inl (k.1, 40, .inl xw) := (hfr11 36 (by omega)).trans hsDM36
      have h15 : w7 37 = .inl (k.1, 40, .inl xd) := (hfr11 37 (by omega)).trans hsDM37
      have hfr16 : ∀ z, (z < 34 ∨ 37 < z) ∧ z ≠ 22 → w7 z = w z := fun z hz => (hfr11 z (by omega)).trans (hfr0 z hz)
      rw [er10]
      refine lb_if_eq (tgt := 95) hx hb dD_pack_90 (by decide) (fun h9 => absurd (by decide) h9) (fun _ => ?_)
      refine lv_iconst (v := 0) hx hb dD_pack_93 (by decide) ?_
      exact g_iret hQ hx hb hr hlk hG hK hS (by decide) (by decide) ⟨by first | rfl | omega | (simp_all; done) | grind, h9, ⟨h12, h13, h14, h15⟩, hfr16⟩ dD_pack_94
    · refine lv_iload_n hx hb dD_pack_49 rfl (lv_at hl 4 rfl) ?_
      refine lv_aload_n hx hb dD_pack_50 rfl (lv_at hl 2 rfl) ?_
      refine g_get hx hb hts inD hown hK hG 22 (by decide) hsD22 rfl 16 (by decide) lkD_48 rfl dD_pack_51 ?_
      refine lv_aload_n hx hb dD_pack_54 rfl (lv_at hl 2 rfl) ?_
      refine g_ViR (i := 22) (As := []) (rest := [.int bd, .int y]) (kD_shelvesEnd hA hsD22 ⟨hsDM34, hsDM35, hsDM36, hsDM37⟩ (by omega)) calD_shelvesEnd cvD_shelvesEnd mlD_141 hx hb hml hown hts hB hG hK hS (by decide) hsD22 rfl ⟨by decide, by decide⟩ rfl hl.1 rfl (Nat.le_of_ble_eq_true rfl) dD_pack_55 ⟨by decide, by decide⟩ (fun H locs hG hS => ?_)
      refine lv_isub hx hb dD_pack_58 ?_
      refine lv_icmp_le (tgt := 66) hx hb dD_pack_59 (by decide) (fun c18 => ?_) (fun c18 => ?_)
      · refine lv_iconst (v := 0) hx hb dD_pack_66 (by decide) ?_
        refine lv_istore (lv' := [(5, .int 0), (4, .int (-1)), (3, .int 1), (0, .ref (a 22)), (1, .int x), (2, .int y)]) hx hb dD_pack_67 hl (by decide) rfl (fun ls hl => ?_)
        refine lv_aload_n hx hb dD_pack_69 rfl (lv_at hl 3 rfl) ?_
        refine lv_aload_n hx hb dD_pack_70 rfl (lv_at hl 3 rfl) ?_
        refine g_get hx hb hts inD hown hK hG 22 (by decide) hsD22 rfl 17 (by decide) lkD_132 rfl dD_pack_71 ?_
        refine lv_bipush (v := 40) hx hb dD_pack_74 (by decide) ?_
        refine ln_icmp_ne (x := nt) (y := 40) (tgt := 83) hx hb dD_pack_76 (by decide) (by omega) (by decide) (fun c19 => ?_) (fun c19 => absurd c19 (by omega))
        refine lv_iconst (v := 0) hx hb dD_pack_83 (by decide) ?_
        refine lv_iload_n hx hb dD_pack_84 rfl (lv_at hl 2 rfl) ?_
        refine lv_iload hx hb dD_pack_85 (lv_at hl 0 rfl) ?_
        refine g_Vi (i := 22) (As := [.int 0, .int 1, .int 0]) (rest := []) (kD_throwing hA hsD22 0 1 0) calD_throwing cvD_throwing mlD_77 hx hb hml hown hts hB hG hK hS (by decide) hsD22 rfl ⟨by decide, by decide⟩ rfl hl.1 rfl (Nat.le_of_ble_eq_true rfl) dD_pack_87 ⟨by decide, by decide⟩ (fun r20 w21 H locs hp22 hG hS => ?_)
        obtain ⟨er24, h23, hfr25⟩ := hp22
        have h26 : w21 34 = .inl (k.1, 40, .inl xa) := (hfr25 34 (by omega)).trans hsDM34
        have h27 : w21 35 = .inl (k.1, 40, .inl xf) := (hfr25 35 (by omega)).trans hsDM35
        have h28 : w21 36 = .inl (k.1, 40, .inl xw) := (hfr25 36 (by omega)).trans hsDM36
        have h29 : w21 37 = .inl (k.1, 40, .inl xd) := (hfr25 37 (by omega)).trans hsDM37
        have hfr30 : ∀ z, (z < 34 ∨ 37 < z) ∧ z ≠ 22 → w21 z = w z := fun z hz => (hfr25 z (by omega)).trans (hfr0 z hz)
        rw [er24]
        refine lb_if_eq (tgt := 95) hx hb dD_pack_90 (by decide) (fun h9 => absurd (by decide) h9) (fun _ => ?_)
        refine lv_iconst (v := 0) hx hb dD_pack_93 (by decide) ?_
        exact g_iret hQ hx hb hr hlk hG hK hS (by decide) (by decide) ⟨by first | rfl | omega | (simp_all; done) | grind, h23, ⟨h26, h27, h28, h29⟩, hfr30⟩ dD_pack_94
      · refine lv_iconst (v := 1) hx hb dD_pack_62 (by decide) ?_
        refine lv_goto (tgt := 67) hx hb dD_pack_63 (by decide) ?_
        refine lv_istore (lv' := [(5, .int 1), (4, .int (-1)), (3, .int 1), (0, .ref (a 22)), (1, .int x), (2, .int y)]) hx hb dD_pack_67 hl (by decide) rfl (fun ls hl => ?_)
        refine lv_aload_n hx hb dD_pack_69 rfl (lv_at hl 3 rfl) ?_
        refine lv_aload_n hx hb dD_pack_70 rfl (lv_at hl 3 rfl) ?_
        refine g_get hx hb hts inD hown hK hG 22 (by decide) hsD22 rfl 17 (by decide) lkD_132 rfl dD_pack_71 ?_
        refine lv_bipush (v := 40) hx hb dD_pack_74 (by decide) ?_
        refine ln_icmp_ne (x := nt) (y := 40) (tgt := 83) hx hb dD_pack_76 (by decide) (by omega) (by decide) (fun c32 => ?_) (fun c32 => absurd c32 (by omega))
        refine lv_iconst (v := 0) hx hb dD_pack_83 (by decide) ?_
        refine lv_iload_n hx hb dD_pack_84 rfl (lv_at hl 2 rfl) ?_
        refine lv_iload hx hb dD_pack_85 (lv_at hl 0 rfl) ?_
        refine g_Vi (i := 22) (As := [.int 0, .int 1, .int 1]) (rest := []) (kD_throwing hA hsD22 0 1 1) calD_throwing cvD_throwing mlD_77 hx hb hml hown hts hB hG hK hS (by decide) hsD22 rfl ⟨by decide, by decide⟩ rfl hl.1 rfl (Nat.le_of_ble_eq_true rfl) dD_pack_87 ⟨by decide, by decide⟩ (fun r33 w34 H locs hp35 hG hS => ?_)
        obtain ⟨er37, h36, hfr38⟩ := hp35
        have h39 : w34 34 = .inl (k.1, 40, .inl xa) := (hfr38 34 (by omega)).trans hsDM34
        have h40 : w34 35 = .inl (k.1, 40, .inl xf) := (hfr38 35 (by omega)).trans hsDM35
        have h41 : w34 36 = .inl (k.1, 40, .inl xw) := (hfr38 36 (by omega)).trans hsDM36
        have h42 : w34 37 = .inl (k.1, 40, .inl xd) := (hfr38 37 (by omega)).trans hsDM37
        have hfr43 : ∀ z, (z < 34 ∨ 37 < z) ∧ z ≠ 22 → w34 z = w z := fun z hz => (hfr38 z (by omega)).trans (hfr0 z hz)
        rw [er37]
        refine lb_if_eq (tgt := 95) hx hb dD_pack_90 (by decide) (fun h9 => absurd (by decide) h9) (fun _ => ?_)
        refine lv_iconst (v := 0) hx hb dD_pack_93 (by decide) ?_
        exact g_iret hQ hx hb hr hlk hG hK hS (by decide) (by decide) ⟨by first | rfl | omega | (simp_all; done) | grind, h36, ⟨h39, h40, h41, h42⟩, hfr43⟩ dD_pack_94
  · refine lv_iload_n hx hb dD_pack_7 rfl (lv_at hl 2 rfl) ?_
    refine g_SiR (As := [.int y]) (rest := []) (kD_isWide hA y) calD_isWide cvD_isWide mlD_129 hx hb hml hown hts hB hG hK hS ⟨by decide, by decide⟩ rfl hl.1 rfl (Nat.le_of_ble_eq_true rfl) dD_pack_8 ⟨by decide, by decide⟩ (fun H locs hG hS => ?_)
    refine lb_if_ne (tgt := 18) hx hb dD_pack_11 (by decide) (fun c45 => ?_) (fun c45 => ?_)
    · exact absurd ⟨by assumption, by assumption⟩ hz
    · refine lv_iconst (v := 1) hx hb dD_pack_14 (by decide) ?_
      refine lv_goto (tgt := 19) hx hb dD_pack_15 (by decide) ?_
      refine lv_istore_n (lv' := [(3, .int 1), (0, .ref (a 22)), (1, .int x), (2, .int y)]) hx hb dD_pack_19 rfl hl (by decide) rfl (fun ls hl => ?_)
      refine lv_iload_n hx hb dD_pack_20 rfl (lv_at hl 0 rfl) ?_
      refine lv_if_eq (tgt := 28) hx hb dD_pack_21 (by decide) (fun h9 => absurd h9 (by decide)) (fun _ => ?_)
      refine lv_iconst (v := (-1)) hx hb dD_pack_24 (by decide) ?_
      refine lv_goto (tgt := 34) hx hb dD_pack_25 (by decide) ?_
      refine lv_istore (lv' := [(4, .int (-1)), (3, .int 1), (0, .ref (a 22)), (1, .int x), (2, .int y)]) hx hb dD_pack_34 hl (by decide) rfl (fun ls hl => ?_)
      refine lv_iload hx hb dD_pack_36 (lv_at hl 0 rfl) ?_
      refine lv_if_ge (tgt := 66) hx hb dD_pack_38 (by decide) (fun h9 => absurd h9 (by decide)) (fun _ => ?_)
      refine lv_iload_n hx hb dD_pack_41 rfl (lv_at hl 3 rfl) ?_
      refine lv_aload_n hx hb dD_pack_42 rfl (lv_at hl 2 rfl) ?_
      refine g_get hx hb hts inD hown hK hG 22 (by decide) hsD22 rfl 15 (by decide) lkD_44 rfl dD_pack_43 ?_
      refine lv_icmp_gt (tgt := 62) hx hb dD_pack_46 (by decide) (fun c48 => ?_) (fun c48 => ?_)
      · refine lv_iconst (v := 1) hx hb dD_pack_62 (by decide) ?_
        refine lv_goto (tgt := 67) hx hb dD_pack_63 (by decide) ?_
        refine lv_istore (lv' := [(5, .int 1), (4, .int (-1)), (3, .int 1), (0, .ref (a 22)), (1, .int x), (2, .int y)]) hx hb dD_pack_67 hl (by decide) rfl (fun ls hl => ?_)
        refine lv_aload_n hx hb dD_pack_69 rfl (lv_at hl 3 rfl) ?_
        refine lv_aload_n hx hb dD_pack_70 rfl (lv_at hl 3 rfl) ?_
        refine g_get hx hb hts inD hown hK hG 22 (by decide) hsD22 rfl 17 (by decide) lkD_132 rfl dD_pack_71 ?_
        refine lv_bipush (v := 40) hx hb dD_pack_74 (by decide) ?_
        refine ln_icmp_ne (x := nt) (y := 40) (tgt := 83) hx hb dD_pack_76 (by decide) (by omega) (by decide) (fun c49 => ?_) (fun c49 => absurd c49 (by omega))
        refine lv_iconst (v := 0) hx hb dD_pack_83 (by decide) ?_
        refine lv_iload_n hx hb dD_pack_84 rfl (lv_at hl 2 rfl) ?_
        refine lv_iload hx hb dD_pack_85 (lv_at hl 0 rfl) ?_
        refine g_Vi (i := 22) (As := [.int 0, .int 1, .int 1]) (rest := []) (kD_throwing hA hsD22 0 1 1) calD_throwing cvD_throwing mlD_77 hx hb hml hown hts hB hG hK hS (by decide) hsD22 rfl ⟨by decide, by decide⟩ rfl hl.1 rfl (Nat.le_of_ble_eq_true rfl) dD_pack_87 ⟨by decide, by decide⟩ (fun r50 w51 H locs hp52 hG hS => ?_)
        obtain ⟨er54, h53, hfr55⟩ := hp52
        have h56 : w51 34 = .inl (k.1, 40, .inl xa) := (hfr55 34 (by omega)).trans hsDM34
        have h57 : w51 35 = .inl (k.1, 40, .inl xf) := (hfr55 35 (by omega)).trans hsDM35
        have h58 : w51 36 = .inl (k.1, 40, .inl xw) := (hfr55 36 (by omega)).trans hsDM36
        have h59 : w51 37 = .inl (k.1, 40, .inl xd) := (hfr55 37 (by omega)).trans hsDM37
        have hfr60 : ∀ z, (z < 34 ∨ 37 < z) ∧ z ≠ 22 → w51 z = w z := fun z hz => (hfr55 z (by omega)).trans (hfr0 z hz)
        rw [er54]
        refine lb_if_eq (tgt := 95) hx hb dD_pack_90 (by decide) (fun h9 => absurd (by decide) h9) (fun _ => ?_)
        refine lv_iconst (v := 0) hx hb dD_pack_93 (by decide) ?_
        exact g_iret hQ hx hb hr hlk hG hK hS (by decide) (by decide) ⟨by first | rfl | omega | (simp_all; done) | grind, h53, ⟨h56, h57, h58, h59⟩, hfr60⟩ dD_pack_94
      · refine lv_iload_n hx hb dD_pack_49 rfl (lv_at hl 4 rfl) ?_
        refine lv_aload_n hx hb dD_pack_50 rfl (lv_at hl 2 rfl) ?_
        refine g_get hx hb hts inD hown hK hG 22 (by decide) hsD22 rfl 16 (by decide) lkD_48 rfl dD_pack_51 ?_
        refine lv_aload_n hx hb dD_pack_54 rfl (lv_at hl 2 rfl) ?_
        refine g_ViR (i := 22) (As := []) (rest := [.int bd, .int y]) (kD_shelvesEnd hA hsD22 ⟨hsDM34, hsDM35, hsDM36, hsDM37⟩ (by omega)) calD_shelvesEnd cvD_shelvesEnd mlD_141 hx hb hml hown hts hB hG hK hS (by decide) hsD22 rfl ⟨by decide, by decide⟩ rfl hl.1 rfl (Nat.le_of_ble_eq_true rfl) dD_pack_55 ⟨by decide, by decide⟩ (fun H locs hG hS => ?_)
        refine lv_isub hx hb dD_pack_58 ?_
        refine lv_icmp_le (tgt := 66) hx hb dD_pack_59 (by decide) (fun c62 => ?_) (fun c62 => ?_)
        · refine lv_iconst (v := 0) hx hb dD_pack_66 (by decide) ?_
          refine lv_istore (lv' := [(5, .int 0), (4, .int (-1)), (3, .int 1), (0, .ref (a 22)), (1, .int x), (2, .int y)]) hx hb dD_pack_67 hl (by decide) rfl (fun ls hl => ?_)
          refine lv_aload_n hx hb dD_pack_69 rfl (lv_at hl 3 rfl) ?_
          refine lv_aload_n hx hb dD_pack_70 rfl (lv_at hl 3 rfl) ?_
          refine g_get hx hb hts inD hown hK hG 22 (by decide) hsD22 rfl 17 (by decide) lkD_132 rfl dD_pack_71 ?_
          refine lv_bipush (v := 40) hx hb dD_pack_74 (by decide) ?_
          refine ln_icmp_ne (x := nt) (y := 40) (tgt := 83) hx hb dD_pack_76 (by decide) (by omega) (by decide) (fun c63 => ?_) (fun c63 => absurd c63 (by omega))
          refine lv_iconst (v := 0) hx hb dD_pack_83 (by decide) ?_
          refine lv_iload_n hx hb dD_pack_84 rfl (lv_at hl 2 rfl) ?_
          refine lv_iload hx hb dD_pack_85 (lv_at hl 0 rfl) ?_
          refine g_Vi (i := 22) (As := [.int 0, .int 1, .int 0]) (rest := []) (kD_throwing hA hsD22 0 1 0) calD_throwing cvD_throwing mlD_77 hx hb hml hown hts hB hG hK hS (by decide) hsD22 rfl ⟨by decide, by decide⟩ rfl hl.1 rfl (Nat.le_of_ble_eq_true rfl) dD_pack_87 ⟨by decide, by decide⟩ (fun r64 w65 H locs hp66 hG hS => ?_)
          obtain ⟨er68, h67, hfr69⟩ := hp66
          have h70 : w65 34 = .inl (k.1, 40, .inl xa) := (hfr69 34 (by omega)).trans hsDM34
          have h71 : w65 35 = .inl (k.1, 40, .inl xf) := (hfr69 35 (by omega)).trans hsDM35
          have h72 : w65 36 = .inl (k.1, 40, .inl xw) := (hfr69 36 (by omega)).trans hsDM36
          have h73 : w65 37 = .inl (k.1, 40, .inl xd) := (hfr69 37 (by omega)).trans hsDM37
          have hfr74 : ∀ z, (z < 34 ∨ 37 < z) ∧ z ≠ 22 → w65 z = w z := fun z hz => (hfr69 z (by omega)).trans (hfr0 z hz)
          rw [er68]
          refine lb_if_eq (tgt := 95) hx hb dD_pack_90 (by decide) (fun h9 => absurd (by decide) h9) (fun _ => ?_)
          refine lv_iconst (v := 0) hx hb dD_pack_93 (by decide) ?_
          exact g_iret hQ hx hb hr hlk hG hK hS (by decide) (by decide) ⟨by first | rfl | omega | (simp_all; done) | grind, h67, ⟨h70, h71, h72, h73⟩, hfr74⟩ dD_pack_94
        · refine lv_iconst (v := 1) hx hb dD_pack_62 (by decide) ?_
          refine lv_goto (tgt := 67) hx hb dD_pack_63 (by decide) ?_
          refine lv_istore (lv' := [(5, .int 1), (4, .int (-1)), (3, .int 1), (0, .ref (a 22)), (1, .int x), (2, .int y)]) hx hb dD_pack_67 hl (by decide) rfl (fun ls hl => ?_)
          refine lv_aload_n hx hb dD_pack_69 rfl (lv_at hl 3 rfl) ?_
          refine lv_aload_n hx hb dD_pack_70 rfl (lv_at hl 3 rfl) ?_
          refine g_get hx hb hts inD hown hK hG 22 (by decide) hsD22 rfl 17 (by decide) lkD_132 rfl dD_pack_71 ?_
          refine lv_bipush (v := 40) hx hb dD_pack_74 (by decide) ?_
          refine ln_icmp_ne (x := nt) (y := 40) (tgt := 83) hx hb dD_pack_76 (by decide) (by omega) (by decide) (fun c76 => ?_) (fun c76 => absurd c76 (by omega))
          refine lv_iconst (v := 0) hx hb dD_pack_83 (by decide) ?_
          refine lv_iload_n hx hb dD_pack_84 rfl (lv_at hl 2 rfl) ?_
          refine lv_iload hx hb dD_pack_85 (lv_at hl 0 rfl) ?_
          refine g_Vi (i := 22) (As := [.int 0, .int 1, .int 1]) (rest := []) (kD_throwing hA hsD22 0 1 1) calD_throwing cvD_throwing mlD_77 hx hb hml hown hts hB hG hK hS (by decide) hsD22 rfl ⟨by decide, by decide⟩ rfl hl.1 rfl (Nat.le_of_ble_eq_true rfl) dD_pack_87 ⟨by decide, by decide⟩ (fun r77 w78 H locs hp79 hG hS => ?_)
          obtain ⟨er81, h80, hfr82⟩ := hp79
          have h83 : w78 34 = .inl (k.1, 40, .inl xa) := (hfr82 34 (by omega)).trans hsDM34
          have h84 : w78 35 = .inl (k.1, 40, .inl xf) := (hfr82 35 (by omega)).trans hsDM35
          have h85 : w78 36 = .inl (k.1, 40, .inl xw) := (hfr82 36 (by omega)).trans hsDM36
          have h86 : w78 37 = .inl (k.1, 40, .inl xd) := (hfr82 37 (by omega)).trans hsDM37
          have hfr87 : ∀ z, (z < 34 ∨ 37 < z) ∧ z ≠ 22 → w78 z = w z := fun z hz => (hfr82 z (by omega)).trans (hfr0 z hz)
          rw [er81]
          refine lb_if_eq (tgt := 95) hx hb dD_pack_90 (by decide) (fun h9 => absurd (by decide) h9) (fun _ => ?_)
          refine lv_iconst (v := 0) hx hb dD_pack_93 (by decide) ?_
          exact g_iret hQ hx hb hr hlk hG hK hS (by decide) (by decide) ⟨by first | rfl | omega | (simp_all; done) | grind, h80, ⟨h83, h84, h85, h86⟩, hfr87⟩ dD_pack_94

abbrev rmD_pack_m : Room := { frames := 2, cells := 0, slots := 0, locals := 47 }
set_option maxRecDepth 100000 in
set_option maxHeartbeats 4000000 in
theorem kD_pack_m {l : Launch} {D : va_G} {k : ClassId × ClassId × ClassId} {a : Nat → Nat} {B0 : Nat} {w : Nat → va_E} (hA : gA B0 a) {th : Int32} {n : Nat} {nr : Nat} {nf : Nat} {bw : Int32} {bd : Int32} {nt : Nat} {xa : Nat → Int32} {xf : Nat → Int32} {xw : Nat → Int32} {xd : Nat → Int32} (hsD : sD k a w th n nr nf bw bd nt) (hsDM : sDM k a w xa xf xw xd) (x : Int32) (y : Int32) (hn : nt < 40) (h1 : wdR x) (h2 : wdR y) (hsh : fstF (mShP bw xa xf xw xd nt x y) nt 0 = -1) (hno : bw < x ∨ ¬ y ≤ bd - seF xa xf xd nt 0 0) : Met l yD_pack (tbw yD_pack cD_pack 6 (some .int)) rmD_pack_m (gPc D k a B0 w [.ref (a 22), .int x, .int y]) (va_Qi (fun rr9 w1 => rr9 = 0 ∧ (sD k a w1 3 n nr nf bw bd nt) ∧ (sDM k a w1 xa xf xw xd) ∧ ∀ z, (z < 34 ∨ 37 < z) ∧ z ≠ 22 → w1 z = w z) (gB D k a) (gF B0)) 0 0 (gF B0) := by
  have hsD22 := hsD
  obtain ⟨hsDM34, hsDM35, hsDM36, hsDM37⟩ := hsDM
  refine g_ofW (by decide) rfl (fun p e s m args below meth c Q hQ hx hb hr hlk hml hown hts hB hG hK hS ls hl => ?_)
  have hl : lv_has ls 6 [(0, .ref (a 22)), (1, .int x), (2, .int y)] := hl
  have hown : s.vm.findClass RD = some m.cls := hown
  have hfr0 : ∀ z, (z < 34 ∨ 37 < z) ∧ z ≠ 22 → w z = w z := fun _ _ => rfl
  refine lv_iload_n hx hb dD_pack_0 rfl (lv_at hl 1 rfl) ?_
  refine g_SiR (As := [.int x]) (rest := []) (kD_isWide hA x) calD_isWide cvD_isWide mlD_129 hx hb hml hown hts hB hG hK hS ⟨by decide, by decide⟩ rfl hl.1 rfl (Nat.le_of_ble_eq_true rfl) dD_pack_1 ⟨by decide, by decide⟩ (fun H locs hG hS => ?_)
  refine lb_if_eq (tgt := 14) hx hb dD_pack_4 (by decide) (fun h9 => absurd h1 h9) (fun _ => ?_)
  refine lv_iload_n hx hb dD_pack_7 rfl (lv_at hl 2 rfl) ?_
  refine g_SiR (As := [.int y]) (rest := []) (kD_isWide hA y) calD_isWide cvD_isWide mlD_129 hx hb hml hown hts hB hG hK hS ⟨by decide, by decide⟩ rfl hl.1 rfl (Nat.le_of_ble_eq_true rfl) dD_pack_8 ⟨by decide, by decide⟩ (fun H locs hG hS => ?_)
  refine lb_if_ne (tgt := 18) hx hb dD_pack_11 (by decide) (fun _ => ?_) (fun h9 => absurd h2 h9)
  refine lv_iconst (v := 0) hx hb dD_pack_18 (by decide) ?_
  refine lv_istore_n (lv' := [(3, .int 0), (0, .ref (a 22)), (1, .int x), (2, .int y)]) hx hb dD_pack_19 rfl hl (by decide) rfl (fun ls hl => ?_)
  refine lv_iload_n hx hb dD_pack_20 rfl (lv_at hl 0 rfl) ?_
  refine lv_if_eq (tgt := 28) hx hb dD_pack_21 (by decide) (fun _ => ?_) (fun h9 => absurd h9 (by decide))
  refine lv_aload_n hx hb dD_pack_28 rfl (lv_at hl 1 rfl) ?_
  refine lv_iload_n hx hb dD_pack_29 rfl (lv_at hl 2 rfl) ?_
  refine lv_iload_n hx hb dD_pack_30 rfl (lv_at hl 3 rfl) ?_
  refine g_ViR (i := 22) (As := [.int x, .int y]) (rest := []) (kD_shelfFor hA hsD22 ⟨hsDM34, hsDM35, hsDM36, hsDM37⟩ x y (by omega)) calD_shelfFor cvD_shelfFor mlD_138 hx hb hml hown hts hB hG hK hS (by decide) hsD22 rfl ⟨by decide, by decide⟩ rfl hl.1 rfl (Nat.le_of_ble_eq_true rfl) dD_pack_31 ⟨by decide, by decide⟩ (fun H locs hG hS => ?_)
  rw [hsh]
  refine lv_istore (lv' := [(4, .int (-1)), (3, .int 0), (0, .ref (a 22)), (1, .int x), (2, .int y)]) hx hb dD_pack_34 hl (by decide) rfl (fun ls hl => ?_)
  refine lv_iload hx hb dD_pack_36 (lv_at hl 0 rfl) ?_
  refine lv_if_ge (tgt := 66) hx hb dD_pack_38 (by decide) (fun h9 => absurd h9 (by decide)) (fun _ => ?_)
  refine lv_iload_n hx hb dD_pack_41 rfl (lv_at hl 3 rfl) ?_
  refine lv_aload_n hx hb dD_pack_42 rfl (lv_at hl 2 rfl) ?_
  refine g_get hx hb hts inD hown hK hG 22 (by decide) hsD22 rfl 15 (by decide) lkD_44 rfl dD_pack_43 ?_
  refine lv_icmp_gt (tgt := 62) hx hb dD_pack_46 (by decide) (fun c5 => ?_) (fun c5 => ?_)
  · refine lv_iconst (v := 1) hx hb dD_pack_62 (by decide) ?_
    refine lv_goto (tgt := 67) hx hb dD_pack_63 (by decide) ?_
    refine lv_istore (lv' := [(5, .int 1), (4, .int (-1)), (3, .int 0), (0, .ref (a 22)), (1, .int x), (2, .int y)]) hx hb dD_pack_67 hl (by decide) rfl (fun ls hl => ?_)
    refine lv_aload_n hx hb dD_pack_69 rfl (lv_at hl 3 rfl) ?_
    refine lv_aload_n hx hb dD_pack_70 rfl (lv_at hl 3 rfl) ?_
    refine g_get hx hb hts inD hown hK hG 22 (by decide) hsD22 rfl 17 (by decide) lkD_132 rfl dD_pack_71 ?_
    refine lv_bipush (v := 40) hx hb dD_pack_74 (by decide) ?_
    refine ln_icmp_ne (x := nt) (y := 40) (tgt := 83) hx hb dD_pack_76 (by decide) (by omega) (by decide) (fun c6 => ?_) (fun c6 => absurd c6 (by omega))
    refine lv_iconst (v := 0) hx hb dD_pack_83 (by decide) ?_
    refine lv_iload_n hx hb dD_pack_84 rfl (lv_at hl 2 rfl) ?_
    refine lv_iload hx hb dD_pack_85 (lv_at hl 0 rfl) ?_
    refine g_Vi (i := 22) (As := [.int 0, .int 0, .int 1]) (rest := []) (kD_throwing hA hsD22 0 0 1) calD_throwing cvD_throwing mlD_77 hx hb hml hown hts hB hG hK hS (by decide) hsD22 rfl ⟨by decide, by decide⟩ rfl hl.1 rfl (Nat.le_of_ble_eq_true rfl) dD_pack_87 ⟨by decide, by decide⟩ (fun r7 w8 H locs hp9 hG hS => ?_)
    obtain ⟨er11, h10, hfr12⟩ := hp9
    have h13 : w8 34 = .inl (k.1, 40, .inl xa) := (hfr12 34 (by omega)).trans hsDM34
    have h14 : w8 35 = .inl (k.1, 40, .inl xf) := (hfr12 35 (by omega)).trans hsDM35
    have h15 : w8 36 = .inl (k.1, 40, .inl xw) := (hfr12 36 (by omega)).trans hsDM36
    have h16 : w8 37 = .inl (k.1, 40, .inl xd) := (hfr12 37 (by omega)).trans hsDM37
    have hfr17 : ∀ z, (z < 34 ∨ 37 < z) ∧ z ≠ 22 → w8 z = w z := fun z hz => (hfr12 z (by omega)).trans (hfr0 z hz)
    rw [er11]
    refine lb_if_eq (tgt := 95) hx hb dD_pack_90 (by decide) (fun h9 => absurd (by decide) h9) (fun _ => ?_)
    refine lv_iconst (v := 0) hx hb dD_pack_93 (by decide) ?_
    exact g_iret hQ hx hb hr hlk hG hK hS (by decide) (by decide) ⟨by first | rfl | omega | (simp_all; done) | grind, h10, ⟨h13, h14, h15, h16⟩, hfr17⟩ dD_pack_94
  · refine lv_iload_n hx hb dD_pack_49 rfl (lv_at hl 4 rfl) ?_
    refine lv_aload_n hx hb dD_pack_50 rfl (lv_at hl 2 rfl) ?_
    refine g_get hx hb hts inD hown hK hG 22 (by decide) hsD22 rfl 16 (by decide) lkD_48 rfl dD_pack_51 ?_
    refine lv_aload_n hx hb dD_pack_54 rfl (lv_at hl 2 rfl) ?_
    refine g_ViR (i := 22) (As := []) (rest := [.int bd, .int y]) (kD_shelvesEnd hA hsD22 ⟨hsDM34, hsDM35, hsDM36, hsDM37⟩ (by omega)) calD_shelvesEnd cvD_shelvesEnd mlD_141 hx hb hml hown hts hB hG hK hS (by decide) hsD22 rfl ⟨by decide, by decide⟩ rfl hl.1 rfl (Nat.le_of_ble_eq_true rfl) dD_pack_55 ⟨by decide, by decide⟩ (fun H locs hG hS => ?_)
    refine lv_isub hx hb dD_pack_58 ?_
    refine lv_icmp_le (tgt := 66) hx hb dD_pack_59 (by decide) (fun c19 => (hno.elim (fun e => absurd e (by assumption)) (fun e => absurd c19 e))) (fun c19 => ?_)
    refine lv_iconst (v := 1) hx hb dD_pack_62 (by decide) ?_
    refine lv_goto (tgt := 67) hx hb dD_pack_63 (by decide) ?_
    refine lv_istore (lv' := [(5, .int 1), (4, .int (-1)), (3, .int 0), (0, .ref (a 22)), (1, .int x), (2, .int y)]) hx hb dD_pack_67 hl (by decide) rfl (fun ls hl => ?_)
    refine lv_aload_n hx hb dD_pack_69 rfl (lv_at hl 3 rfl) ?_
    refine lv_aload_n hx hb dD_pack_70 rfl (lv_at hl 3 rfl) ?_
    refine g_get hx hb hts inD hown hK hG 22 (by decide) hsD22 rfl 17 (by decide) lkD_132 rfl dD_pack_71 ?_
    refine lv_bipush (v := 40) hx hb dD_pack_74 (by decide) ?_
    refine ln_icmp_ne (x := nt) (y := 40) (tgt := 83) hx hb dD_pack_76 (by decide) (by omega) (by decide) (fun c20 => ?_) (fun c20 => absurd c20 (by omega))
    refine lv_iconst (v := 0) hx hb dD_pack_83 (by decide) ?_
    refine lv_iload_n hx hb dD_pack_84 rfl (lv_at hl 2 rfl) ?_
    refine lv_iload hx hb dD_pack_85 (lv_at hl 0 rfl) ?_
    refine g_Vi (i := 22) (As := [.int 0, .int 0, .int 1]) (rest := []) (kD_throwing hA hsD22 0 0 1) calD_throwing cvD_throwing mlD_77 hx hb hml hown hts hB hG hK hS (by decide) hsD22 rfl ⟨by decide, by decide⟩ rfl hl.1 rfl (Nat.le_of_ble_eq_true rfl) dD_pack_87 ⟨by decide, by decide⟩ (fun r21 w22 H locs hp23 hG hS => ?_)
    obtain ⟨er25, h24, hfr26⟩ := hp23
    have h27 : w22 34 = .inl (k.1, 40, .inl xa) := (hfr26 34 (by omega)).trans hsDM34
    have h28 : w22 35 = .inl (k.1, 40, .inl xf) := (hfr26 35 (by omega)).trans hsDM35
    have h29 : w22 36 = .inl (k.1, 40, .inl xw) := (hfr26 36 (by omega)).trans hsDM36
    have h30 : w22 37 = .inl (k.1, 40, .inl xd) := (hfr26 37 (by omega)).trans hsDM37
    have hfr31 : ∀ z, (z < 34 ∨ 37 < z) ∧ z ≠ 22 → w22 z = w z := fun z hz => (hfr26 z (by omega)).trans (hfr0 z hz)
    rw [er25]
    refine lb_if_eq (tgt := 95) hx hb dD_pack_90 (by decide) (fun h9 => absurd (by decide) h9) (fun _ => ?_)
    refine lv_iconst (v := 0) hx hb dD_pack_93 (by decide) ?_
    exact g_iret hQ hx hb hr hlk hG hK hS (by decide) (by decide) ⟨by first | rfl | omega | (simp_all; done) | grind, h24, ⟨h27, h28, h29, h30⟩, hfr31⟩ dD_pack_94

abbrev rmD_pack_n : Room := { frames := 2, cells := 0, slots := 0, locals := 47 }
set_option maxRecDepth 100000 in
set_option maxHeartbeats 4000000 in
theorem kD_pack_n {l : Launch} {D : va_G} {k : ClassId × ClassId × ClassId} {a : Nat → Nat} {B0 : Nat} {w : Nat → va_E} (hA : gA B0 a) {th : Int32} {n : Nat} {nr : Nat} {nf : Nat} {bw : Int32} {bd : Int32} {nt : Nat} {xa : Nat → Int32} {xf : Nat → Int32} {xw : Nat → Int32} {xd : Nat → Int32} (hsD : sD k a w th n nr nf bw bd nt) (hsDM : sDM k a w xa xf xw xd) (x : Int32) (y : Int32) (hn : nt < 40) (h1 : wdR x) (h2 : wdR y) (hsh : fstF (mShP bw xa xf xw xd nt x y) nt 0 = -1) (hb1 : ¬ bw < x) (hb2 : y ≤ bd - seF xa xf xd nt 0 0) : Met l yD_pack (tbw yD_pack cD_pack 6 (some .int)) rmD_pack_n (gPc D k a B0 w [.ref (a 22), .int x, .int y]) (va_Qi (fun rr9 w1 => rr9 = (nI nt) ∧ (sD k a w1 0 n nr nf bw bd (nt + 1)) ∧ (sDM k a w1 (upd xa nt 0) (upd xf nt (seF (upd xa nt 0) xf xd nt 0 0)) (upd xw nt x) (upd xd nt y)) ∧ ∀ z, (z < 34 ∨ 37 < z) ∧ z ≠ 22 → w1 z = w z) (gB D k a) (gF B0)) 0 0 (gF B0) := by
  have hsD22 := hsD
  obtain ⟨hsDM34, hsDM35, hsDM36, hsDM37⟩ := hsDM
  refine g_ofW (by decide) rfl (fun p e s m args below meth c Q hQ hx hb hr hlk hml hown hts hB hG hK hS ls hl => ?_)
  have hl : lv_has ls 6 [(0, .ref (a 22)), (1, .int x), (2, .int y)] := hl
  have hown : s.vm.findClass RD = some m.cls := hown
  have hfr0 : ∀ z, (z < 34 ∨ 37 < z) ∧ z ≠ 22 → w z = w z := fun _ _ => rfl
  refine lv_iload_n hx hb dD_pack_0 rfl (lv_at hl 1 rfl) ?_
  refine g_SiR (As := [.int x]) (rest := []) (kD_isWide hA x) calD_isWide cvD_isWide mlD_129 hx hb hml hown hts hB hG hK hS ⟨by decide, by decide⟩ rfl hl.1 rfl (Nat.le_of_ble_eq_true rfl) dD_pack_1 ⟨by decide, by decide⟩ (fun H locs hG hS => ?_)
  refine lb_if_eq (tgt := 14) hx hb dD_pack_4 (by decide) (fun h9 => absurd h1 h9) (fun _ => ?_)
  refine lv_iload_n hx hb dD_pack_7 rfl (lv_at hl 2 rfl) ?_
  refine g_SiR (As := [.int y]) (rest := []) (kD_isWide hA y) calD_isWide cvD_isWide mlD_129 hx hb hml hown hts hB hG hK hS ⟨by decide, by decide⟩ rfl hl.1 rfl (Nat.le_of_ble_eq_true rfl) dD_pack_8 ⟨by decide, by decide⟩ (fun H locs hG hS => ?_)
  refine lb_if_ne (tgt := 18) hx hb dD_pack_11 (by decide) (fun _ => ?_) (fun h9 => absurd h2 h9)
  refine lv_iconst (v := 0) hx hb dD_pack_18 (by decide) ?_
  refine lv_istore_n (lv' := [(3, .int 0), (0, .ref (a 22)), (1, .int x), (2, .int y)]) hx hb dD_pack_19 rfl hl (by decide) rfl (fun ls hl => ?_)
  refine lv_iload_n hx hb dD_pack_20 rfl (lv_at hl 0 rfl) ?_
  refine lv_if_eq (tgt := 28) hx hb dD_pack_21 (by decide) (fun _ => ?_) (fun h9 => absurd h9 (by decide))
  refine lv_aload_n hx hb dD_pack_28 rfl (lv_at hl 1 rfl) ?_
  refine lv_iload_n hx hb dD_pack_29 rfl (lv_at hl 2 rfl) ?_
  refine lv_iload_n hx hb dD_pack_30 rfl (lv_at hl 3 rfl) ?_
  refine g_ViR (i := 22) (As := [.int x, .int y]) (rest := []) (kD_shelfFor hA hsD22 ⟨hsDM34, hsDM35, hsDM36, hsDM37⟩ x y (by omega)) calD_shelfFor cvD_shelfFor mlD_138 hx hb hml hown hts hB hG hK hS (by decide) hsD22 rfl ⟨by decide, by decide⟩ rfl hl.1 rfl (Nat.le_of_ble_eq_true rfl) dD_pack_31 ⟨by decide, by decide⟩ (fun H locs hG hS => ?_)
  rw [hsh]
  refine lv_istore (lv' := [(4, .int (-1)), (3, .int 0), (0, .ref (a 22)), (1, .int x), (2, .int y)]) hx hb dD_pack_34 hl (by decide) rfl (fun ls hl => ?_)
  refine lv_iload hx hb dD_pack_36 (lv_at hl 0 rfl) ?_
  refine lv_if_ge (tgt := 66) hx hb dD_pack_38 (by decide) (fun h9 => absurd h9 (by decide)) (fun _ => ?_)
  refine lv_iload_n hx hb dD_pack_41 rfl (lv_at hl 3 rfl) ?_
  refine lv_aload_n hx hb dD_pack_42 rfl (lv_at hl 2 rfl) ?_
  refine g_get hx hb hts inD hown hK hG 22 (by decide) hsD22 rfl 15 (by decide) lkD_44 rfl dD_pack_43 ?_
  refine lv_icmp_gt (tgt := 62) hx hb dD_pack_46 (by decide) (fun c5 => (absurd c5 hb1)) (fun c5 => ?_)
  refine lv_iload_n hx hb dD_pack_49 rfl (lv_at hl 4 rfl) ?_
  refine lv_aload_n hx hb dD_pack_50 rfl (lv_at hl 2 rfl) ?_
  refine g_get hx hb hts inD hown hK hG 22 (by decide) hsD22 rfl 16 (by decide) lkD_48 rfl dD_pack_51 ?_
  refine lv_aload_n hx hb dD_pack_54 rfl (lv_at hl 2 rfl) ?_
  refine g_ViR (i := 22) (As := []) (rest := [.int bd, .int y]) (kD_shelvesEnd hA hsD22 ⟨hsDM34, hsDM35, hsDM36, hsDM37⟩ (by omega)) calD_shelvesEnd cvD_shelvesEnd mlD_141 hx hb hml hown hts hB hG hK hS (by decide) hsD22 rfl ⟨by decide, by decide⟩ rfl hl.1 rfl (Nat.le_of_ble_eq_true rfl) dD_pack_55 ⟨by decide, by decide⟩ (fun H locs hG hS => ?_)
  refine lv_isub hx hb dD_pack_58 ?_
  refine lv_icmp_le (tgt := 66) hx hb dD_pack_59 (by decide) (fun c6 => ?_) (fun c6 => (absurd hb2 c6))
  refine lv_iconst (v := 0) hx hb dD_pack_66 (by decide) ?_
  refine lv_istore (lv' := [(5, .int 0), (4, .int (-1)), (3, .int 0), (0, .ref (a 22)), (1, .int x), (2, .int y)]) hx hb dD_pack_67 hl (by decide) rfl (fun ls hl => ?_)
  refine lv_aload_n hx hb dD_pack_69 rfl (lv_at hl 3 rfl) ?_
  refine lv_aload_n hx hb dD_pack_70 rfl (lv_at hl 3 rfl) ?_
  refine g_get hx hb hts inD hown hK hG 22 (by decide) hsD22 rfl 17 (by decide) lkD_132 rfl dD_pack_71 ?_
  refine lv_bipush (v := 40) hx hb dD_pack_74 (by decide) ?_
  refine ln_icmp_ne (x := nt) (y := 40) (tgt := 83) hx hb dD_pack_76 (by decide) (by omega) (by decide) (fun c7 => ?_) (fun c7 => absurd c7 (by omega))
  refine lv_iconst (v := 0) hx hb dD_pack_83 (by decide) ?_
  refine lv_iload_n hx hb dD_pack_84 rfl (lv_at hl 2 rfl) ?_
  refine lv_iload hx hb dD_pack_85 (lv_at hl 0 rfl) ?_
  refine g_Vi (i := 22) (As := [.int 0, .int 0, .int 0]) (rest := []) (kD_throwing hA hsD22 0 0 0) calD_throwing cvD_throwing mlD_77 hx hb hml hown hts hB hG hK hS (by decide) hsD22 rfl ⟨by decide, by decide⟩ rfl hl.1 rfl (Nat.le_of_ble_eq_true rfl) dD_pack_87 ⟨by decide, by decide⟩ (fun r8 w9 H locs hp10 hG hS => ?_)
  obtain ⟨er12, h11, hfr13⟩ := hp10
  have h14 : w9 34 = .inl (k.1, 40, .inl xa) := (hfr13 34 (by omega)).trans hsDM34
  have h15 : w9 35 = .inl (k.1, 40, .inl xf) := (hfr13 35 (by omega)).trans hsDM35
  have h16 : w9 36 = .inl (k.1, 40, .inl xw) := (hfr13 36 (by omega)).trans hsDM36
  have h17 : w9 37 = .inl (k.1, 40, .inl xd) := (hfr13 37 (by omega)).trans hsDM37
  have hfr18 : ∀ z, (z < 34 ∨ 37 < z) ∧ z ≠ 22 → w9 z = w z := fun z hz => (hfr13 z (by omega)).trans (hfr0 z hz)
  rw [er12]
  refine lb_if_eq (tgt := 95) hx hb dD_pack_90 (by decide) (fun _ => ?_) (fun h9 => absurd h9 (by decide))
  refine lv_aload_n hx hb dD_pack_95 rfl (lv_at hl 3 rfl) ?_
  refine g_get hx hb hts inD hown hK hG 22 (by decide) h11 rfl 18 (by decide) lkD_51 rfl dD_pack_96 ?_
  refine lv_aload_n hx hb dD_pack_99 rfl (lv_at hl 3 rfl) ?_
  refine g_get hx hb hts inD hown hK hG 22 (by decide) h11 rfl 17 (by decide) lkD_132 rfl dD_pack_100 ?_
  refine lv_iload hx hb dD_pack_103 (lv_at hl 1 rfl) ?_
  refine lv_if_ge (tgt := 112) hx hb dD_pack_105 (by decide) (fun h9 => absurd h9 (by decide)) (fun _ => ?_)
  refine lv_iconst (v := 0) hx hb dD_pack_108 (by decide) ?_
  refine lv_goto (tgt := 118) hx hb dD_pack_109 (by decide) ?_
  refine g_iast hx hb hK hA hG hS 34 (by decide) h14 (j := nt) (by omega) (by decide) dD_pack_118 (fun H locs hG hS => ?_)
  obtain ⟨w21, hw22⟩ : ∃ zz9, zz9 = va_up w9 34 (.inl (k.1, 40, .inl (upd xa nt 0))) := ⟨_, rfl⟩
  replace hG : gW D a w21 H := by rw [hw22]; exact hG
  have h23 : w21 22 = .inr (5, [.int (thrI 0 0 0), .int (nI n), .ref (a 23), .ref (a 24), .ref (a 25), .ref (a 26), .ref (a 27), .ref (a 28), .ref (a 29), .int (nI nr), .ref (a 30), .ref (a 31), .int (nI nf), .ref (a 32), .ref (a 33), .int bw, .int bd, .int (nI nt), .ref (a 34), .ref (a 35), .ref (a 36), .ref (a 37)]) := by rw [hw22]; exact h11
  have h24 : w21 34 = .inl (k.1, 40, .inl (upd xa nt 0)) := by rw [hw22]; rfl
  have h25 : w21 35 = .inl (k.1, 40, .inl xf) := by rw [hw22]; exact h15
  have h26 : w21 36 = .inl (k.1, 40, .inl xw) := by rw [hw22]; exact h16
  have h27 : w21 37 = .inl (k.1, 40, .inl xd) := by rw [hw22]; exact h17
  have hfr28 : ∀ z, (z < 34 ∨ 37 < z) ∧ z ≠ 22 → w21 z = w z := fun z hz => by rw [hw22]; exact (va_up_ne _ _ (by omega)).trans (hfr18 z hz)
  refine lv_aload_n hx hb dD_pack_119 rfl (lv_at hl 3 rfl) ?_
  refine g_get hx hb hts inD hown hK hG 22 (by decide) h23 rfl 19 (by decide) lkD_54 rfl dD_pack_120 ?_
  refine lv_aload_n hx hb dD_pack_123 rfl (lv_at hl 3 rfl) ?_
  refine g_get hx hb hts inD hown hK hG 22 (by decide) h23 rfl 17 (by decide) lkD_132 rfl dD_pack_124 ?_
  refine lv_iload hx hb dD_pack_127 (lv_at hl 1 rfl) ?_
  refine lv_if_ge (tgt := 139) hx hb dD_pack_129 (by decide) (fun h9 => absurd h9 (by decide)) (fun _ => ?_)
  refine lv_aload_n hx hb dD_pack_132 rfl (lv_at hl 3 rfl) ?_
  refine g_ViR (i := 22) (As := []) (rest := [.int (nI nt), .ref (a 35)]) (kD_shelvesEnd hA h23 ⟨h24, h25, h26, h27⟩ (by omega)) calD_shelvesEnd cvD_shelvesEnd mlD_141 hx hb hml hown hts hB hG hK hS (by decide) h23 rfl ⟨by decide, by decide⟩ rfl hl.1 rfl (Nat.le_of_ble_eq_true rfl) dD_pack_133 ⟨by decide, by decide⟩ (fun H locs hG hS => ?_)
  refine lv_goto (tgt := 146) hx hb dD_pack_136 (by decide) ?_
  refine g_iast hx hb hK hA hG hS 35 (by decide) h25 (j := nt) (by omega) (by decide) dD_pack_146 (fun H locs hG hS => ?_)
  obtain ⟨w30, hw31⟩ : ∃ zz9, zz9 = va_up w21 35 (.inl (k.1, 40, .inl (upd xf nt (seF (upd xa nt 0) xf xd nt 0 0)))) := ⟨_, rfl⟩
  replace hG : gW D a w30 H := by rw [hw31]; exact hG
  have h32 : w30 22 = .inr (5, [.int (thrI 0 0 0), .int (nI n), .ref (a 23), .ref (a 24), .ref (a 25), .ref (a 26), .ref (a 27), .ref (a 28), .ref (a 29), .int (nI nr), .ref (a 30), .ref (a 31), .int (nI nf), .ref (a 32), .ref (a 33), .int bw, .int bd, .int (nI nt), .ref (a 34), .ref (a 35), .ref (a 36), .ref (a 37)]) := by rw [hw31]; exact h23
  have h33 : w30 34 = .inl (k.1, 40, .inl (upd xa nt 0)) := by rw [hw31]; exact h24
  have h34 : w30 35 = .inl (k.1, 40, .inl (upd xf nt (seF (upd xa nt 0) xf xd nt 0 0))) := by rw [hw31]; rfl
  have h35 : w30 36 = .inl (k.1, 40, .inl xw) := by rw [hw31]; exact h26
  have h36 : w30 37 = .inl (k.1, 40, .inl xd) := by rw [hw31]; exact h27
  have hfr37 : ∀ z, (z < 34 ∨ 37 < z) ∧ z ≠ 22 → w30 z = w z := fun z hz => by rw [hw31]; exact (va_up_ne _ _ (by omega)).trans (hfr28 z hz)
  refine lv_aload_n hx hb dD_pack_147 rfl (lv_at hl 3 rfl) ?_
  refine g_get hx hb hts inD hown hK hG 22 (by decide) h32 rfl 20 (by decide) lkD_57 rfl dD_pack_148 ?_
  refine lv_aload_n hx hb dD_pack_151 rfl (lv_at hl 3 rfl) ?_
  refine g_get hx hb hts inD hown hK hG 22 (by decide) h32 rfl 17 (by decide) lkD_132 rfl dD_pack_152 ?_
  refine lv_iload_n hx hb dD_pack_155 rfl (lv_at hl 4 rfl) ?_
  refine g_iast hx hb hK hA hG hS 36 (by decide) h35 (j := nt) (by omega) (by decide) dD_pack_156 (fun H locs hG hS => ?_)
  obtain ⟨w38, hw39⟩ : ∃ zz9, zz9 = va_up w30 36 (.inl (k.1, 40, .inl (upd xw nt x))) := ⟨_, rfl⟩
  replace hG : gW D a w38 H := by rw [hw39]; exact hG
  have h40 : w38 22 = .inr (5, [.int (thrI 0 0 0), .int (nI n), .ref (a 23), .ref (a 24), .ref (a 25), .ref (a 26), .ref (a 27), .ref (a 28), .ref (a 29), .int (nI nr), .ref (a 30), .ref (a 31), .int (nI nf), .ref (a 32), .ref (a 33), .int bw, .int bd, .int (nI nt), .ref (a 34), .ref (a 35), .ref (a 36), .ref (a 37)]) := by rw [hw39]; exact h32
  have h41 : w38 34 = .inl (k.1, 40, .inl (upd xa nt 0)) := by rw [hw39]; exact h33
  have h42 : w38 35 = .inl (k.1, 40, .inl (upd xf nt (seF (upd xa nt 0) xf xd nt 0 0))) := by rw [hw39]; exact h34
  have h43 : w38 36 = .inl (k.1, 40, .inl (upd xw nt x)) := by rw [hw39]; rfl
  have h44 : w38 37 = .inl (k.1, 40, .inl xd) := by rw [hw39]; exact h36
  have hfr45 : ∀ z, (z < 34 ∨ 37 < z) ∧ z ≠ 22 → w38 z = w z := fun z hz => by rw [hw39]; exact (va_up_ne _ _ (by omega)).trans (hfr37 z hz)
  refine lv_aload_n hx hb dD_pack_157 rfl (lv_at hl 3 rfl) ?_
  refine g_get hx hb hts inD hown hK hG 22 (by decide) h40 rfl 21 (by decide) lkD_60 rfl dD_pack_158 ?_
  refine lv_aload_n hx hb dD_pack_161 rfl (lv_at hl 3 rfl) ?_
  refine g_get hx hb hts inD hown hK hG 22 (by decide) h40 rfl 17 (by decide) lkD_132 rfl dD_pack_162 ?_
  refine lv_iload_n hx hb dD_pack_165 rfl (lv_at hl 5 rfl) ?_
  refine g_iast hx hb hK hA hG hS 37 (by decide) h44 (j := nt) (by omega) (by decide) dD_pack_166 (fun H locs hG hS => ?_)
  obtain ⟨w46, hw47⟩ : ∃ zz9, zz9 = va_up w38 37 (.inl (k.1, 40, .inl (upd xd nt y))) := ⟨_, rfl⟩
  replace hG : gW D a w46 H := by rw [hw47]; exact hG
  have h48 : w46 22 = .inr (5, [.int (thrI 0 0 0), .int (nI n), .ref (a 23), .ref (a 24), .ref (a 25), .ref (a 26), .ref (a 27), .ref (a 28), .ref (a 29), .int (nI nr), .ref (a 30), .ref (a 31), .int (nI nf), .ref (a 32), .ref (a 33), .int bw, .int bd, .int (nI nt), .ref (a 34), .ref (a 35), .ref (a 36), .ref (a 37)]) := by rw [hw47]; exact h40
  have h49 : w46 34 = .inl (k.1, 40, .inl (upd xa nt 0)) := by rw [hw47]; exact h41
  have h50 : w46 35 = .inl (k.1, 40, .inl (upd xf nt (seF (upd xa nt 0) xf xd nt 0 0))) := by rw [hw47]; exact h42
  have h51 : w46 36 = .inl (k.1, 40, .inl (upd xw nt x)) := by rw [hw47]; exact h43
  have h52 : w46 37 = .inl (k.1, 40, .inl (upd xd nt y)) := by rw [hw47]; rfl
  have hfr53 : ∀ z, (z < 34 ∨ 37 < z) ∧ z ≠ 22 → w46 z = w z := fun z hz => by rw [hw47]; exact (va_up_ne _ _ (by omega)).trans (hfr45 z hz)
  refine lv_aload_n hx hb dD_pack_167 rfl (lv_at hl 3 rfl) ?_
  refine lv_dup hx hb dD_pack_168 rfl ?_
  refine g_get hx hb hts inD hown hK hG 22 (by decide) h48 rfl 17 (by decide) lkD_132 rfl dD_pack_169 ?_
  refine lv_iconst (v := 1) hx hb dD_pack_172 (by decide) ?_
  refine ln_iadd (x := nt) (y := 1) hx hb dD_pack_173 ?_
  refine g_put hx hb hts inD tyD tokD nokD hown hK hA hG hS 22 (by decide) h48 rfl 17 (by decide) lkD_132 rfl (ty := .int) (by decide +kernel) rfl rfl (Nat.le_of_ble_eq_true rfl) dD_pack_174 (fun H locs hG hS => ?_)
  obtain ⟨w54, hw55⟩ : ∃ zz9, zz9 = va_up w46 22 (.inr (5, [.int (thrI 0 0 0), .int (nI n), .ref (a 23), .ref (a 24), .ref (a 25), .ref (a 26), .ref (a 27), .ref (a 28), .ref (a 29), .int (nI nr), .ref (a 30), .ref (a 31), .int (nI nf), .ref (a 32), .ref (a 33), .int bw, .int bd, .int (nI (nt + 1)), .ref (a 34), .ref (a 35), .ref (a 36), .ref (a 37)])) := ⟨_, rfl⟩
  replace hG : gW D a w54 H := by rw [hw55]; exact hG
  have h56 : w54 22 = .inr (5, [.int (thrI 0 0 0), .int (nI n), .ref (a 23), .ref (a 24), .ref (a 25), .ref (a 26), .ref (a 27), .ref (a 28), .ref (a 29), .int (nI nr), .ref (a 30), .ref (a 31), .int (nI nf), .ref (a 32), .ref (a 33), .int bw, .int bd, .int (nI (nt + 1)), .ref (a 34), .ref (a 35), .ref (a 36), .ref (a 37)]) := by rw [hw55]; rfl
  have h57 : w54 34 = .inl (k.1, 40, .inl (upd xa nt 0)) := by rw [hw55]; exact h49
  have h58 : w54 35 = .inl (k.1, 40, .inl (upd xf nt (seF (upd xa nt 0) xf xd nt 0 0))) := by rw [hw55]; exact h50
  have h59 : w54 36 = .inl (k.1, 40, .inl (upd xw nt x)) := by rw [hw55]; exact h51
  have h60 : w54 37 = .inl (k.1, 40, .inl (upd xd nt y)) := by rw [hw55]; exact h52
  have hfr61 : ∀ z, (z < 34 ∨ 37 < z) ∧ z ≠ 22 → w54 z = w z := fun z hz => by rw [hw55]; exact (va_up_ne _ _ (by omega)).trans (hfr53 z hz)
  refine lv_aload_n hx hb dD_pack_177 rfl (lv_at hl 3 rfl) ?_
  refine g_get hx hb hts inD hown hK hG 22 (by decide) h56 rfl 17 (by decide) lkD_132 rfl dD_pack_178 ?_
  refine lv_iconst (v := 1) hx hb dD_pack_181 (by decide) ?_
  refine ln_isub (x := nt + 1) (y := 1) hx hb dD_pack_182 (by omega) ?_
  exact g_iret hQ hx hb hr hlk hG hK hS (by decide) (by decide) ⟨by first | rfl | omega | (simp_all; done) | grind, h56, ⟨h57, h58, h59, h60⟩, hfr61⟩ dD_pack_183

abbrev rmD_pack_o : Room := { frames := 2, cells := 0, slots := 0, locals := 47 }
set_option maxRecDepth 100000 in
set_option maxHeartbeats 4000000 in
theorem kD_pack_o {l : Launch} {D : va_G} {k : ClassId × ClassId × ClassId} {a : Nat → Nat} {B0 : Nat} {w : Nat → va_E} (hA : gA B0 a) {th : Int32} {n : Nat} {nr : Nat} {nf : Nat} {bw : Int32} {bd : Int32} {nt : Nat} {xa : Nat → Int32} {xf : Nat → Int32} {xw : Nat → Int32} {xd : Nat → Int32} (hsD : sD k a w th n nr nf bw bd nt) (hsDM : sDM k a w xa xf xw xd) (x : Int32) (y : Int32) (i : Nat) (hi : i < nt) (hn : nt < 40) (h1 : wdR x) (h2 : wdR y) (hsh : fstF (mShP bw xa xf xw xd nt x y) nt 0 = nI i) : Met l yD_pack (tbw yD_pack cD_pack 6 (some .int)) rmD_pack_o (gPc D k a B0 w [.ref (a 22), .int x, .int y]) (va_Qi (fun rr9 w1 => rr9 = (nI nt) ∧ (sD k a w1 0 n nr nf bw bd (nt + 1)) ∧ (sDM k a w1 (upd xa nt (mTk xf xw nt i)) (upd xf nt (xf i)) (upd xw nt x) (upd xd nt y)) ∧ ∀ z, (z < 34 ∨ 37 < z) ∧ z ≠ 22 → w1 z = w z) (gB D k a) (gF B0)) 0 0 (gF B0) := by
  have hsD22 := hsD
  obtain ⟨hsDM34, hsDM35, hsDM36, hsDM37⟩ := hsDM
  refine g_ofW (by decide) rfl (fun p e s m args below meth c Q hQ hx hb hr hlk hml hown hts hB hG hK hS ls hl => ?_)
  have hl : lv_has ls 6 [(0, .ref (a 22)), (1, .int x), (2, .int y)] := hl
  have hown : s.vm.findClass RD = some m.cls := hown
  have hfr0 : ∀ z, (z < 34 ∨ 37 < z) ∧ z ≠ 22 → w z = w z := fun _ _ => rfl
  refine lv_iload_n hx hb dD_pack_0 rfl (lv_at hl 1 rfl) ?_
  refine g_SiR (As := [.int x]) (rest := []) (kD_isWide hA x) calD_isWide cvD_isWide mlD_129 hx hb hml hown hts hB hG hK hS ⟨by decide, by decide⟩ rfl hl.1 rfl (Nat.le_of_ble_eq_true rfl) dD_pack_1 ⟨by decide, by decide⟩ (fun H locs hG hS => ?_)
  refine lb_if_eq (tgt := 14) hx hb dD_pack_4 (by decide) (fun h9 => absurd h1 h9) (fun _ => ?_)
  refine lv_iload_n hx hb dD_pack_7 rfl (lv_at hl 2 rfl) ?_
  refine g_SiR (As := [.int y]) (rest := []) (kD_isWide hA y) calD_isWide cvD_isWide mlD_129 hx hb hml hown hts hB hG hK hS ⟨by decide, by decide⟩ rfl hl.1 rfl (Nat.le_of_ble_eq_true rfl) dD_pack_8 ⟨by decide, by decide⟩ (fun H locs hG hS => ?_)
  refine lb_if_ne (tgt := 18) hx hb dD_pack_11 (by decide) (fun _ => ?_) (fun h9 => absurd h2 h9)
  refine lv_iconst (v := 0) hx hb dD_pack_18 (by decide) ?_
  refine lv_istore_n (lv' := [(3, .int 0), (0, .ref (a 22)), (1, .int x), (2, .int y)]) hx hb dD_pack_19 rfl hl (by decide) rfl (fun ls hl => ?_)
  refine lv_iload_n hx hb dD_pack_20 rfl (lv_at hl 0 rfl) ?_
  refine lv_if_eq (tgt := 28) hx hb dD_pack_21 (by decide) (fun _ => ?_) (fun h9 => absurd h9 (by decide))
  refine lv_aload_n hx hb dD_pack_28 rfl (lv_at hl 1 rfl) ?_
  refine lv_iload_n hx hb dD_pack_29 rfl (lv_at hl 2 rfl) ?_
  refine lv_iload_n hx hb dD_pack_30 rfl (lv_at hl 3 rfl) ?_
  refine g_ViR (i := 22) (As := [.int x, .int y]) (rest := []) (kD_shelfFor hA hsD22 ⟨hsDM34, hsDM35, hsDM36, hsDM37⟩ x y (by omega)) calD_shelfFor cvD_shelfFor mlD_138 hx hb hml hown hts hB hG hK hS (by decide) hsD22 rfl ⟨by decide, by decide⟩ rfl hl.1 rfl (Nat.le_of_ble_eq_true rfl) dD_pack_31 ⟨by decide, by decide⟩ (fun H locs hG hS => ?_)
  rw [hsh]
  refine lv_istore (lv' := [(4, .int (nI i)), (3, .int 0), (0, .ref (a 22)), (1, .int x), (2, .int y)]) hx hb dD_pack_34 hl (by decide) rfl (fun ls hl => ?_)
  refine lv_iload hx hb dD_pack_36 (lv_at hl 0 rfl) ?_
  refine ln_if_ge (x := i) (tgt := 66) hx hb dD_pack_38 (by decide) (by omega) ?_
  refine lv_iconst (v := 0) hx hb dD_pack_66 (by decide) ?_
  refine lv_istore (lv' := [(5, .int 0), (4, .int (nI i)), (3, .int 0), (0, .ref (a 22)), (1, .int x), (2, .int y)]) hx hb dD_pack_67 hl (by decide) rfl (fun ls hl => ?_)
  refine lv_aload_n hx hb dD_pack_69 rfl (lv_at hl 3 rfl) ?_
  refine lv_aload_n hx hb dD_pack_70 rfl (lv_at hl 3 rfl) ?_
  refine g_get hx hb hts inD hown hK hG 22 (by decide) hsD22 rfl 17 (by decide) lkD_132 rfl dD_pack_71 ?_
  refine lv_bipush (v := 40) hx hb dD_pack_74 (by decide) ?_
  refine ln_icmp_ne (x := nt) (y := 40) (tgt := 83) hx hb dD_pack_76 (by decide) (by omega) (by decide) (fun c5 => ?_) (fun c5 => absurd c5 (by omega))
  refine lv_iconst (v := 0) hx hb dD_pack_83 (by decide) ?_
  refine lv_iload_n hx hb dD_pack_84 rfl (lv_at hl 2 rfl) ?_
  refine lv_iload hx hb dD_pack_85 (lv_at hl 0 rfl) ?_
  refine g_Vi (i := 22) (As := [.int 0, .int 0, .int 0]) (rest := []) (kD_throwing hA hsD22 0 0 0) calD_throwing cvD_throwing mlD_77 hx hb hml hown hts hB hG hK hS (by decide) hsD22 rfl ⟨by decide, by decide⟩ rfl hl.1 rfl (Nat.le_of_ble_eq_true rfl) dD_pack_87 ⟨by decide, by decide⟩ (fun r6 w7 H locs hp8 hG hS => ?_)
  obtain ⟨er10, h9, hfr11⟩ := hp8
  have h12 : w7 34 = .inl (k.1, 40, .inl xa) := (hfr11 34 (by omega)).trans hsDM34
  have h13 : w7 35 = .inl (k.1, 40, .inl xf) := (hfr11 35 (by omega)).trans hsDM35
  have h14 : w7 36 = .inl (k.1, 40, .inl xw) := (hfr11 36 (by omega)).trans hsDM36
  have h15 : w7 37 = .inl (k.1, 40, .inl xd) := (hfr11 37 (by omega)).trans hsDM37
  have hfr16 : ∀ z, (z < 34 ∨ 37 < z) ∧ z ≠ 22 → w7 z = w z := fun z hz => (hfr11 z (by omega)).trans (hfr0 z hz)
  rw [er10]
  refine lb_if_eq (tgt := 95) hx hb dD_pack_90 (by decide) (fun _ => ?_) (fun h9 => absurd h9 (by decide))
  refine lv_aload_n hx hb dD_pack_95 rfl (lv_at hl 3 rfl) ?_
  refine g_get hx hb hts inD hown hK hG 22 (by decide) h9 rfl 18 (by decide) lkD_51 rfl dD_pack_96 ?_
  refine lv_aload_n hx hb dD_pack_99 rfl (lv_at hl 3 rfl) ?_
  refine g_get hx hb hts inD hown hK hG 22 (by decide) h9 rfl 17 (by decide) lkD_132 rfl dD_pack_100 ?_
  refine lv_iload hx hb dD_pack_103 (lv_at hl 1 rfl) ?_
  refine ln_if_ge (x := i) (tgt := 112) hx hb dD_pack_105 (by decide) (by omega) ?_
  refine lv_aload_n hx hb dD_pack_112 rfl (lv_at hl 3 rfl) ?_
  refine lv_iload hx hb dD_pack_113 (lv_at hl 1 rfl) ?_
  refine g_ViR (i := 22) (As := [.int (nI i)]) (rest := [.int (nI nt), .ref (a 34)]) (kD_taken hA h9 ⟨h12, h13, h14, h15⟩ i (by omega) (by omega) (by omega)) calD_taken cvD_taken mlD_135 hx hb hml hown hts hB hG hK hS (by decide) h9 rfl ⟨by decide, by decide⟩ rfl hl.1 rfl (Nat.le_of_ble_eq_true rfl) dD_pack_115 ⟨by decide, by decide⟩ (fun H locs hG hS => ?_)
  refine g_iast hx hb hK hA hG hS 34 (by decide) h12 (j := nt) (by omega) (by decide) dD_pack_118 (fun H locs hG hS => ?_)
  obtain ⟨w19, hw20⟩ : ∃ zz9, zz9 = va_up w7 34 (.inl (k.1, 40, .inl (upd xa nt (mTk xf xw nt i)))) := ⟨_, rfl⟩
  replace hG : gW D a w19 H := by rw [hw20]; exact hG
  have h21 : w19 22 = .inr (5, [.int (thrI 0 0 0), .int (nI n), .ref (a 23), .ref (a 24), .ref (a 25), .ref (a 26), .ref (a 27), .ref (a 28), .ref (a 29), .int (nI nr), .ref (a 30), .ref (a 31), .int (nI nf), .ref (a 32), .ref (a 33), .int bw, .int bd, .int (nI nt), .ref (a 34), .ref (a 35), .ref (a 36), .ref (a 37)]) := by rw [hw20]; exact h9
  have h22 : w19 34 = .inl (k.1, 40, .inl (upd xa nt (mTk xf xw nt i))) := by rw [hw20]; rfl
  have h23 : w19 35 = .inl (k.1, 40, .inl xf) := by rw [hw20]; exact h13
  have h24 : w19 36 = .inl (k.1, 40, .inl xw) := by rw [hw20]; exact h14
  have h25 : w19 37 = .inl (k.1, 40, .inl xd) := by rw [hw20]; exact h15
  have hfr26 : ∀ z, (z < 34 ∨ 37 < z) ∧ z ≠ 22 → w19 z = w z := fun z hz => by rw [hw20]; exact (va_up_ne _ _ (by omega)).trans (hfr16 z hz)
  refine lv_aload_n hx hb dD_pack_119 rfl (lv_at hl 3 rfl) ?_
  refine g_get hx hb hts inD hown hK hG 22 (by decide) h21 rfl 19 (by decide) lkD_54 rfl dD_pack_120 ?_
  refine lv_aload_n hx hb dD_pack_123 rfl (lv_at hl 3 rfl) ?_
  refine g_get hx hb hts inD hown hK hG 22 (by decide) h21 rfl 17 (by decide) lkD_132 rfl dD_pack_124 ?_
  refine lv_iload hx hb dD_pack_127 (lv_at hl 1 rfl) ?_
  refine ln_if_ge (x := i) (tgt := 139) hx hb dD_pack_129 (by decide) (by omega) ?_
  refine lv_aload_n hx hb dD_pack_139 rfl (lv_at hl 3 rfl) ?_
  refine g_get hx hb hts inD hown hK hG 22 (by decide) h21 rfl 19 (by decide) lkD_54 rfl dD_pack_140 ?_
  refine lv_iload hx hb dD_pack_143 (lv_at hl 1 rfl) ?_
  refine g_iald hx hb hK hG 35 (by decide) h23 (j := i) (by omega) (by decide) dD_pack_145 ?_
  refine g_iast hx hb hK hA hG hS 35 (by decide) h23 (j := nt) (by omega) (by decide) dD_pack_146 (fun H locs hG hS => ?_)
  obtain ⟨w28, hw29⟩ : ∃ zz9, zz9 = va_up w19 35 (.inl (k.1, 40, .inl (upd xf nt (xf i)))) := ⟨_, rfl⟩
  replace hG : gW D a w28 H := by rw [hw29]; exact hG
  have h30 : w28 22 = .inr (5, [.int (thrI 0 0 0), .int (nI n), .ref (a 23), .ref (a 24), .ref (a 25), .ref (a 26), .ref (a 27), .ref (a 28), .ref (a 29), .int (nI nr), .ref (a 30), .ref (a 31), .int (nI nf), .ref (a 32), .ref (a 33), .int bw, .int bd, .int (nI nt), .ref (a 34), .ref (a 35), .ref (a 36), .ref (a 37)]) := by rw [hw29]; exact h21
  have h31 : w28 34 = .inl (k.1, 40, .inl (upd xa nt (mTk xf xw nt i))) := by rw [hw29]; exact h22
  have h32 : w28 35 = .inl (k.1, 40, .inl (upd xf nt (xf i))) := by rw [hw29]; rfl
  have h33 : w28 36 = .inl (k.1, 40, .inl xw) := by rw [hw29]; exact h24
  have h34 : w28 37 = .inl (k.1, 40, .inl xd) := by rw [hw29]; exact h25
  have hfr35 : ∀ z, (z < 34 ∨ 37 < z) ∧ z ≠ 22 → w28 z = w z := fun z hz => by rw [hw29]; exact (va_up_ne _ _ (by omega)).trans (hfr26 z hz)
  refine lv_aload_n hx hb dD_pack_147 rfl (lv_at hl 3 rfl) ?_
  refine g_get hx hb hts inD hown hK hG 22 (by decide) h30 rfl 20 (by decide) lkD_57 rfl dD_pack_148 ?_
  refine lv_aload_n hx hb dD_pack_151 rfl (lv_at hl 3 rfl) ?_
  refine g_get hx hb hts inD hown hK hG 22 (by decide) h30 rfl 17 (by decide) lkD_132 rfl dD_pack_152 ?_
  refine lv_iload_n hx hb dD_pack_155 rfl (lv_at hl 4 rfl) ?_
  refine g_iast hx hb hK hA hG hS 36 (by decide) h33 (j := nt) (by omega) (by decide) dD_pack_156 (fun H locs hG hS => ?_)
  obtain ⟨w36, hw37⟩ : ∃ zz9, zz9 = va_up w28 36 (.inl (k.1, 40, .inl (upd xw nt x))) := ⟨_, rfl⟩
  replace hG : gW D a w36 H := by rw [hw37]; exact hG
  have h38 : w36 22 = .inr (5, [.int (thrI 0 0 0), .int (nI n), .ref (a 23), .ref (a 24), .ref (a 25), .ref (a 26), .ref (a 27), .ref (a 28), .ref (a 29), .int (nI nr), .ref (a 30), .ref (a 31), .int (nI nf), .ref (a 32), .ref (a 33), .int bw, .int bd, .int (nI nt), .ref (a 34), .ref (a 35), .ref (a 36), .ref (a 37)]) := by rw [hw37]; exact h30
  have h39 : w36 34 = .inl (k.1, 40, .inl (upd xa nt (mTk xf xw nt i))) := by rw [hw37]; exact h31
  have h40 : w36 35 = .inl (k.1, 40, .inl (upd xf nt (xf i))) := by rw [hw37]; exact h32
  have h41 : w36 36 = .inl (k.1, 40, .inl (upd xw nt x)) := by rw [hw37]; rfl
  have h42 : w36 37 = .inl (k.1, 40, .inl xd) := by rw [hw37]; exact h34
  have hfr43 : ∀ z, (z < 34 ∨ 37 < z) ∧ z ≠ 22 → w36 z = w z := fun z hz => by rw [hw37]; exact (va_up_ne _ _ (by omega)).trans (hfr35 z hz)
  refine lv_aload_n hx hb dD_pack_157 rfl (lv_at hl 3 rfl) ?_
  refine g_get hx hb hts inD hown hK hG 22 (by decide) h38 rfl 21 (by decide) lkD_60 rfl dD_pack_158 ?_
  refine lv_aload_n hx hb dD_pack_161 rfl (lv_at hl 3 rfl) ?_
  refine g_get hx hb hts inD hown hK hG 22 (by decide) h38 rfl 17 (by decide) lkD_132 rfl dD_pack_162 ?_
  refine lv_iload_n hx hb dD_pack_165 rfl (lv_at hl 5 rfl) ?_
  refine g_iast hx hb hK hA hG hS 37 (by decide) h42 (j := nt) (by omega) (by decide) dD_pack_166 (fun H locs hG hS => ?_)
  obtain ⟨w44, hw45⟩ : ∃ zz9, zz9 = va_up w36 37 (.inl (k.1, 40, .inl (upd xd nt y))) := ⟨_, rfl⟩
  replace hG : gW D a w44 H := by rw [hw45]; exact hG
  have h46 : w44 22 = .inr (5, [.int (thrI 0 0 0), .int (nI n), .ref (a 23), .ref (a 24), .ref (a 25), .ref (a 26), .ref (a 27), .ref (a 28), .ref (a 29), .int (nI nr), .ref (a 30), .ref (a 31), .int (nI nf), .ref (a 32), .ref (a 33), .int bw, .int bd, .int (nI nt), .ref (a 34), .ref (a 35), .ref (a 36), .ref (a 37)]) := by rw [hw45]; exact h38
  have h47 : w44 34 = .inl (k.1, 40, .inl (upd xa nt (mTk xf xw nt i))) := by rw [hw45]; exact h39
  have h48 : w44 35 = .inl (k.1, 40, .inl (upd xf nt (xf i))) := by rw [hw45]; exact h40
  have h49 : w44 36 = .inl (k.1, 40, .inl (upd xw nt x)) := by rw [hw45]; exact h41
  have h50 : w44 37 = .inl (k.1, 40, .inl (upd xd nt y)) := by rw [hw45]; rfl
  have hfr51 : ∀ z, (z < 34 ∨ 37 < z) ∧ z ≠ 22 → w44 z = w z := fun z hz => by rw [hw45]; exact (va_up_ne _ _ (by omega)).trans (hfr43 z hz)
  refine lv_aload_n hx hb dD_pack_167 rfl (lv_at hl 3 rfl) ?_
  refine lv_dup hx hb dD_pack_168 rfl ?_
  refine g_get hx hb hts inD hown hK hG 22 (by decide) h46 rfl 17 (by decide) lkD_132 rfl dD_pack_169 ?_
  refine lv_iconst (v := 1) hx hb dD_pack_172 (by decide) ?_
  refine ln_iadd (x := nt) (y := 1) hx hb dD_pack_173 ?_
  refine g_put hx hb hts inD tyD tokD nokD hown hK hA hG hS 22 (by decide) h46 rfl 17 (by decide) lkD_132 rfl (ty := .int) (by decide +kernel) rfl rfl (Nat.le_of_ble_eq_true rfl) dD_pack_174 (fun H locs hG hS => ?_)
  obtain ⟨w52, hw53⟩ : ∃ zz9, zz9 = va_up w44 22 (.inr (5, [.int (thrI 0 0 0), .int (nI n), .ref (a 23), .ref (a 24), .ref (a 25), .ref (a 26), .ref (a 27), .ref (a 28), .ref (a 29), .int (nI nr), .ref (a 30), .ref (a 31), .int (nI nf), .ref (a 32), .ref (a 33), .int bw, .int bd, .int (nI (nt + 1)), .ref (a 34), .ref (a 35), .ref (a 36), .ref (a 37)])) := ⟨_, rfl⟩
  replace hG : gW D a w52 H := by rw [hw53]; exact hG
  have h54 : w52 22 = .inr (5, [.int (thrI 0 0 0), .int (nI n), .ref (a 23), .ref (a 24), .ref (a 25), .ref (a 26), .ref (a 27), .ref (a 28), .ref (a 29), .int (nI nr), .ref (a 30), .ref (a 31), .int (nI nf), .ref (a 32), .ref (a 33), .int bw, .int bd, .int (nI (nt + 1)), .ref (a 34), .ref (a 35), .ref (a 36), .ref (a 37)]) := by rw [hw53]; rfl
  have h55 : w52 34 = .inl (k.1, 40, .inl (upd xa nt (mTk xf xw nt i))) := by rw [hw53]; exact h47
  have h56 : w52 35 = .inl (k.1, 40, .inl (upd xf nt (xf i))) := by rw [hw53]; exact h48
  have h57 : w52 36 = .inl (k.1, 40, .inl (upd xw nt x)) := by rw [hw53]; exact h49
  have h58 : w52 37 = .inl (k.1, 40, .inl (upd xd nt y)) := by rw [hw53]; exact h50
  have hfr59 : ∀ z, (z < 34 ∨ 37 < z) ∧ z ≠ 22 → w52 z = w z := fun z hz => by rw [hw53]; exact (va_up_ne _ _ (by omega)).trans (hfr51 z hz)
  refine lv_aload_n hx hb dD_pack_177 rfl (lv_at hl 3 rfl) ?_
  refine g_get hx hb hts inD hown hK hG 22 (by decide) h54 rfl 17 (by decide) lkD_132 rfl dD_pack_178 ?_
  refine lv_iconst (v := 1) hx hb dD_pack_181 (by decide) ?_
  refine ln_isub (x := nt + 1) (y := 1) hx hb dD_pack_182 (by omega) ?_
  exact g_iret hQ hx hb hr hlk hG hK hS (by decide) (by decide) ⟨by first | rfl | omega | (simp_all; done) | grind, h54, ⟨h55, h56, h57, h58⟩, hfr59⟩ dD_pack_183

abbrev rmD_packed_p : Room := { frames := 1, cells := 0, slots := 0, locals := 23 }
set_option maxRecDepth 100000 in
set_option maxHeartbeats 4000000 in
theorem kD_packed_p {l : Launch} {D : va_G} {k : ClassId × ClassId × ClassId} {a : Nat → Nat} {B0 : Nat} {w : Nat → va_E} (hA : gA B0 a) {th : Int32} {n : Nat} {nr : Nat} {nf : Nat} {bw : Int32} {bd : Int32} {nt : Nat} {xa : Nat → Int32} {xf : Nat → Int32} {xw : Nat → Int32} {xd : Nat → Int32} (hsD : sD k a w th n nr nf bw bd nt) (hsDM : sDM k a w xa xf xw xd) (q : Int32) (r : Int32) (hq : ¬ rngI q 0 ((nI nt) - 1)) : Met l yD_packed (tbw yD_packed cD_packed 3 (some .int)) rmD_packed_p (gPc D k a B0 w [.ref (a 22), .int q, .int r]) (va_Qi (fun rr9 w1 => rr9 = 0 ∧ (sD k a w1 1 n nr nf bw bd nt) ∧ (sDM k a w1 xa xf xw xd) ∧ ∀ z, (z < 34 ∨ 37 < z) ∧ z ≠ 22 → w1 z = w z) (gB D k a) (gF B0)) 0 0 (gF B0) := by
  have hsD22 := hsD
  obtain ⟨hsDM34, hsDM35, hsDM36, hsDM37⟩ := hsDM
  refine g_ofW (by decide) rfl (fun p e s m args below meth c Q hQ hx hb hr hlk hml hown hts hB hG hK hS ls hl => ?_)
  have hl : lv_has ls 3 [(0, .ref (a 22)), (1, .int q), (2, .int r)] := hl
  have hown : s.vm.findClass RD = some m.cls := hown
  have hfr0 : ∀ z, (z < 34 ∨ 37 < z) ∧ z ≠ 22 → w z = w z := fun _ _ => rfl
  refine lv_aload_n hx hb dD_packed_0 rfl (lv_at hl 0 rfl) ?_
  refine lv_iload_n hx hb dD_packed_1 rfl (lv_at hl 1 rfl) ?_
  refine lv_iconst (v := 0) hx hb dD_packed_2 (by decide) ?_
  refine lv_aload_n hx hb dD_packed_3 rfl (lv_at hl 0 rfl) ?_
  refine g_get hx hb hts inD hown hK hG 22 (by decide) hsD22 rfl 17 (by decide) lkD_132 rfl dD_packed_4 ?_
  refine lv_iconst (v := 1) hx hb dD_packed_7 (by decide) ?_
  refine lv_isub hx hb dD_packed_8 ?_
  refine g_SiR (As := [.int q, .int 0, .int ((nI nt) - 1)]) (rest := [.ref (a 22)]) (kD_in hA q 0 ((nI nt) - 1)) calD_in cvD_in mlD_66 hx hb hml hown hts hB hG hK hS ⟨by decide, by decide⟩ rfl hl.1 rfl (Nat.le_of_ble_eq_true rfl) dD_packed_9 ⟨by decide, by decide⟩ (fun H locs hG hS => ?_)
  refine lb_if_eq (tgt := 24) hx hb dD_packed_12 (by decide) (fun _ => ?_) (fun h9 => absurd h9 hq)
  refine lv_iconst (v := 1) hx hb dD_packed_24 (by decide) ?_
  refine lv_goto (tgt := 29) hx hb dD_packed_25 (by decide) ?_
  refine lv_iconst (v := 0) hx hb dD_packed_29 (by decide) ?_
  refine lv_iconst (v := 0) hx hb dD_packed_30 (by decide) ?_
  refine g_Vi (i := 22) (As := [.int 1, .int 0, .int 0]) (rest := []) (kD_throwing hA hsD22 1 0 0) calD_throwing cvD_throwing mlD_77 hx hb hml hown hts hB hG hK hS (by decide) hsD22 rfl ⟨by decide, by decide⟩ rfl hl.1 rfl (Nat.le_of_ble_eq_true rfl) dD_packed_31 ⟨by decide, by decide⟩ (fun r2 w3 H locs hp4 hG hS => ?_)
  obtain ⟨er6, h5, hfr7⟩ := hp4
  have h8 : w3 34 = .inl (k.1, 40, .inl xa) := (hfr7 34 (by omega)).trans hsDM34
  have h9 : w3 35 = .inl (k.1, 40, .inl xf) := (hfr7 35 (by omega)).trans hsDM35
  have h10 : w3 36 = .inl (k.1, 40, .inl xw) := (hfr7 36 (by omega)).trans hsDM36
  have h11 : w3 37 = .inl (k.1, 40, .inl xd) := (hfr7 37 (by omega)).trans hsDM37
  have hfr12 : ∀ z, (z < 34 ∨ 37 < z) ∧ z ≠ 22 → w3 z = w z := fun z hz => (hfr7 z (by omega)).trans (hfr0 z hz)
  rw [er6]
  refine lb_if_eq (tgt := 39) hx hb dD_packed_34 (by decide) (fun h9 => absurd (by decide) h9) (fun _ => ?_)
  refine lv_iconst (v := 0) hx hb dD_packed_37 (by decide) ?_
  exact g_iret hQ hx hb hr hlk hG hK hS (by decide) (by decide) ⟨by first | rfl | omega | (simp_all; done) | grind, h5, ⟨h8, h9, h10, h11⟩, hfr12⟩ dD_packed_38

abbrev rmD_packed_w : Room := { frames := 1, cells := 0, slots := 0, locals := 23 }
set_option maxRecDepth 100000 in
set_option maxHeartbeats 4000000 in
theorem kD_packed_w {l : Launch} {D : va_G} {k : ClassId × ClassId × ClassId} {a : Nat → Nat} {B0 : Nat} {w : Nat → va_E} (hA : gA B0 a) {th : Int32} {n : Nat} {nr : Nat} {nf : Nat} {bw : Int32} {bd : Int32} {nt : Nat} {xa : Nat → Int32} {xf : Nat → Int32} {xw : Nat → Int32} {xd : Nat → Int32} (hsD : sD k a w th n nr nf bw bd nt) (hsDM : sDM k a w xa xf xw xd) (j : Nat) (r : Int32) (hj : j < nt) (hn : nt ≤ 40) (hw : ¬ rngI r 0 1) : Met l yD_packed (tbw yD_packed cD_packed 3 (some .int)) rmD_packed_w (gPc D k a B0 w [.ref (a 22), .int (nI j), .int r]) (va_Qi (fun rr9 w1 => rr9 = 0 ∧ (sD k a w1 1 n nr nf bw bd nt) ∧ (sDM k a w1 xa xf xw xd) ∧ ∀ z, (z < 34 ∨ 37 < z) ∧ z ≠ 22 → w1 z = w z) (gB D k a) (gF B0)) 0 0 (gF B0) := by
  have hsD22 := hsD
  obtain ⟨hsDM34, hsDM35, hsDM36, hsDM37⟩ := hsDM
  refine g_ofW (by decide) rfl (fun p e s m args below meth c Q hQ hx hb hr hlk hml hown hts hB hG hK hS ls hl => ?_)
  have hl : lv_has ls 3 [(0, .ref (a 22)), (1, .int (nI j)), (2, .int r)] := hl
  have hown : s.vm.findClass RD = some m.cls := hown
  have hfr0 : ∀ z, (z < 34 ∨ 37 < z) ∧ z ≠ 22 → w z = w z := fun _ _ => rfl
  refine lv_aload_n hx hb dD_packed_0 rfl (lv_at hl 0 rfl) ?_
  refine lv_iload_n hx hb dD_packed_1 rfl (lv_at hl 1 rfl) ?_
  refine lv_iconst (v := 0) hx hb dD_packed_2 (by decide) ?_
  refine lv_aload_n hx hb dD_packed_3 rfl (lv_at hl 0 rfl) ?_
  refine g_get hx hb hts inD hown hK hG 22 (by decide) hsD22 rfl 17 (by decide) lkD_132 rfl dD_packed_4 ?_
  refine lv_iconst (v := 1) hx hb dD_packed_7 (by decide) ?_
  refine lv_isub hx hb dD_packed_8 ?_
  refine g_SiR (As := [.int (nI j), .int 0, .int ((nI nt) - 1)]) (rest := [.ref (a 22)]) (kD_in hA (nI j) 0 ((nI nt) - 1)) calD_in cvD_in mlD_66 hx hb hml hown hts hB hG hK hS ⟨by decide, by decide⟩ rfl hl.1 rfl (Nat.le_of_ble_eq_true rfl) dD_packed_9 ⟨by decide, by decide⟩ (fun H locs hG hS => ?_)
  refine lb_if_eq (tgt := 24) hx hb dD_packed_12 (by decide) (fun h9 => absurd (rng_part hj (by omega)) h9) (fun _ => ?_)
  refine lv_iload_n hx hb dD_packed_15 rfl (lv_at hl 2 rfl) ?_
  refine lv_iconst (v := 0) hx hb dD_packed_16 (by decide) ?_
  refine lv_iconst (v := 1) hx hb dD_packed_17 (by decide) ?_
  refine g_SiR (As := [.int r, .int 0, .int 1]) (rest := [.ref (a 22)]) (kD_in hA r 0 1) calD_in cvD_in mlD_66 hx hb hml hown hts hB hG hK hS ⟨by decide, by decide⟩ rfl hl.1 rfl (Nat.le_of_ble_eq_true rfl) dD_packed_18 ⟨by decide, by decide⟩ (fun H locs hG hS => ?_)
  refine lb_if_ne (tgt := 28) hx hb dD_packed_21 (by decide) (fun h9 => absurd h9 hw) (fun _ => ?_)
  refine lv_iconst (v := 1) hx hb dD_packed_24 (by decide) ?_
  refine lv_goto (tgt := 29) hx hb dD_packed_25 (by decide) ?_
  refine lv_iconst (v := 0) hx hb dD_packed_29 (by decide) ?_
  refine lv_iconst (v := 0) hx hb dD_packed_30 (by decide) ?_
  refine g_Vi (i := 22) (As := [.int 1, .int 0, .int 0]) (rest := []) (kD_throwing hA hsD22 1 0 0) calD_throwing cvD_throwing mlD_77 hx hb hml hown hts hB hG hK hS (by decide) hsD22 rfl ⟨by decide, by decide⟩ rfl hl.1 rfl (Nat.le_of_ble_eq_true rfl) dD_packed_31 ⟨by decide, by decide⟩ (fun r3 w4 H locs hp5 hG hS => ?_)
  obtain ⟨er7, h6, hfr8⟩ := hp5
  have h9 : w4 34 = .inl (k.1, 40, .inl xa) := (hfr8 34 (by omega)).trans hsDM34
  have h10 : w4 35 = .inl (k.1, 40, .inl xf) := (hfr8 35 (by omega)).trans hsDM35
  have h11 : w4 36 = .inl (k.1, 40, .inl xw) := (hfr8 36 (by omega)).trans hsDM36
  have h12 : w4 37 = .inl (k.1, 40, .inl xd) := (hfr8 37 (by omega)).trans hsDM37
  have hfr13 : ∀ z, (z < 34 ∨ 37 < z) ∧ z ≠ 22 → w4 z = w z := fun z hz => (hfr8 z (by omega)).trans (hfr0 z hz)
  rw [er7]
  refine lb_if_eq (tgt := 39) hx hb dD_packed_34 (by decide) (fun h9 => absurd (by decide) h9) (fun _ => ?_)
  refine lv_iconst (v := 0) hx hb dD_packed_37 (by decide) ?_
  exact g_iret hQ hx hb hr hlk hG hK hS (by decide) (by decide) ⟨by first | rfl | omega | (simp_all; done) | grind, h6, ⟨h9, h10, h11, h12⟩, hfr13⟩ dD_packed_38

abbrev rmD_packed_k : Room := { frames := 1, cells := 0, slots := 0, locals := 23 }
set_option maxRecDepth 100000 in
set_option maxHeartbeats 4000000 in
theorem kD_packed_k {l : Launch} {D : va_G} {k : ClassId × ClassId × ClassId} {a : Nat → Nat} {B0 : Nat} {w : Nat → va_E} (hA : gA B0 a) {th : Int32} {n : Nat} {nr : Nat} {nf : Nat} {bw : Int32} {bd : Int32} {nt : Nat} {xa : Nat → Int32} {xf : Nat → Int32} {xw : Nat → Int32} {xd : Nat → Int32} (hsD : sD k a w th n nr nf bw bd nt) (hsDM : sDM k a w xa xf xw xd) (j : Nat) (r : Int32) (hj : j < nt) (hn : nt ≤ 40) (hw : rngI r 0 1) : Met l yD_packed (tbw yD_packed cD_packed 3 (some .int)) rmD_packed_k (gPc D k a B0 w [.ref (a 22), .int (nI j), .int r]) (va_Qi (fun rr9 w1 => rr9 = (rPk xa xf j r) ∧ (sD k a w1 0 n nr nf bw bd nt) ∧ (sDM k a w1 xa xf xw xd) ∧ ∀ z, (z < 34 ∨ 37 < z) ∧ z ≠ 22 → w1 z = w z) (gB D k a) (gF B0)) 0 0 (gF B0) := by
  have hsD22 := hsD
  obtain ⟨hsDM34, hsDM35, hsDM36, hsDM37⟩ := hsDM
  refine g_ofW (by decide) rfl (fun p e s m args below meth c Q hQ hx hb hr hlk hml hown hts hB hG hK hS ls hl => ?_)
  have hl : lv_has ls 3 [(0, .ref (a 22)), (1, .int (nI j)), (2, .int r)] := hl
  have hown : s.vm.findClass RD = some m.cls := hown
  have hfr0 : ∀ z, (z < 34 ∨ 37 < z) ∧ z ≠ 22 → w z = w z := fun _ _ => rfl
  refine lv_aload_n hx hb dD_packed_0 rfl (lv_at hl 0 rfl) ?_
  refine lv_iload_n hx hb dD_packed_1 rfl (lv_at hl 1 rfl) ?_
  refine lv_iconst (v := 0) hx hb dD_packed_2 (by decide) ?_
  refine lv_aload_n hx hb dD_packed_3 rfl (lv_at hl 0 rfl) ?_
  refine g_get hx hb hts inD hown hK hG 22 (by decide) hsD22 rfl 17 (by decide) lkD_132 rfl dD_packed_4 ?_
  refine lv_iconst (v := 1) hx hb dD_packed_7 (by decide) ?_
  refine lv_isub hx hb dD_packed_8 ?_
  refine g_SiR (As := [.int (nI j), .int 0, .int ((nI nt) - 1)]) (rest := [.ref (a 22)]) (kD_in hA (nI j) 0 ((nI nt) - 1)) calD_in cvD_in mlD_66 hx hb hml hown hts hB hG hK hS ⟨by decide, by decide⟩ rfl hl.1 rfl (Nat.le_of_ble_eq_true rfl) dD_packed_9 ⟨by decide, by decide⟩ (fun H locs hG hS => ?_)
  refine lb_if_eq (tgt := 24) hx hb dD_packed_12 (by decide) (fun h9 => absurd (rng_part hj (by omega)) h9) (fun _ => ?_)
  refine lv_iload_n hx hb dD_packed_15 rfl (lv_at hl 2 rfl) ?_
  refine lv_iconst (v := 0) hx hb dD_packed_16 (by decide) ?_
  refine lv_iconst (v := 1) hx hb dD_packed_17 (by decide) ?_
  refine g_SiR (As := [.int r, .int 0, .int 1]) (rest := [.ref (a 22)]) (kD_in hA r 0 1) calD_in cvD_in mlD_66 hx hb hml hown hts hB hG hK hS ⟨by decide, by decide⟩ rfl hl.1 rfl (Nat.le_of_ble_eq_true rfl) dD_packed_18 ⟨by decide, by decide⟩ (fun H locs hG hS => ?_)
  refine lb_if_ne (tgt := 28) hx hb dD_packed_21 (by decide) (fun _ => ?_) (fun h9 => absurd hw h9)
  refine lv_iconst (v := 0) hx hb dD_packed_28 (by decide) ?_
  refine lv_iconst (v := 0) hx hb dD_packed_29 (by decide) ?_
  refine lv_iconst (v := 0) hx hb dD_packed_30 (by decide) ?_
  refine g_Vi (i := 22) (As := [.int 0, .int 0, .int 0]) (rest := []) (kD_throwing hA hsD22 0 0 0) calD_throwing cvD_throwing mlD_77 hx hb hml hown hts hB hG hK hS (by decide) hsD22 rfl ⟨by decide, by decide⟩ rfl hl.1 rfl (Nat.le_of_ble_eq_true rfl) dD_packed_31 ⟨by decide, by decide⟩ (fun r3 w4 H locs hp5 hG hS => ?_)
  obtain ⟨er7, h6, hfr8⟩ := hp5
  have h9 : w4 34 = .inl (k.1, 40, .inl xa) := (hfr8 34 (by omega)).trans hsDM34
  have h10 : w4 35 = .inl (k.1, 40, .inl xf) := (hfr8 35 (by omega)).trans hsDM35
  have h11 : w4 36 = .inl (k.1, 40, .inl xw) := (hfr8 36 (by omega)).trans hsDM36
  have h12 : w4 37 = .inl (k.1, 40, .inl xd) := (hfr8 37 (by omega)).trans hsDM37
  have hfr13 : ∀ z, (z < 34 ∨ 37 < z) ∧ z ≠ 22 → w4 z = w z := fun z hz => (hfr8 z (by omega)).trans (hfr0 z hz)
  rw [er7]
  refine lb_if_eq (tgt := 39) hx hb dD_packed_34 (by decide) (fun _ => ?_) (fun h9 => absurd h9 (by decide))
  refine lv_iload_n hx hb dD_packed_39 rfl (lv_at hl 2 rfl) ?_
  refine lv_if_ne (tgt := 52) hx hb dD_packed_40 (by decide) (fun c15 => ?_) (fun c15 => ?_)
  · refine lv_aload_n hx hb dD_packed_52 rfl (lv_at hl 0 rfl) ?_
    refine g_get hx hb hts inD hown hK hG 22 (by decide) h6 rfl 19 (by decide) lkD_54 rfl dD_packed_53 ?_
    refine lv_iload_n hx hb dD_packed_56 rfl (lv_at hl 1 rfl) ?_
    refine g_iald hx hb hK hG 35 (by decide) h10 (j := j) (by omega) (by decide) dD_packed_57 ?_
    exact g_iret hQ hx hb hr hlk hG hK hS (by decide) (by decide) ⟨by first | exact (if_pos (by assumption)).symm | exact (if_neg (by assumption)).symm, h6, ⟨h9, h10, h11, h12⟩, hfr13⟩ dD_packed_58
  · refine lv_aload_n hx hb dD_packed_43 rfl (lv_at hl 0 rfl) ?_
    refine g_get hx hb hts inD hown hK hG 22 (by decide) h6 rfl 18 (by decide) lkD_51 rfl dD_packed_44 ?_
    refine lv_iload_n hx hb dD_packed_47 rfl (lv_at hl 1 rfl) ?_
    refine g_iald hx hb hK hG 34 (by decide) h9 (j := j) (by omega) (by decide) dD_packed_48 ?_
    refine lv_goto (tgt := 58) hx hb dD_packed_49 (by decide) ?_
    exact g_iret hQ hx hb hr hlk hG hK hS (by decide) (by decide) ⟨by first | exact (if_pos (by assumption)).symm | exact (if_neg (by assumption)).symm, h6, ⟨h9, h10, h11, h12⟩, hfr13⟩ dD_packed_58
