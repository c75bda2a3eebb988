section LROWS
variable {p : Program} {l : Launch} {e : Env} {R : Room} {s : State} {m : MethodId} {args : Array Value} {below : List Frame} {meth : Method} {c : Code} {H : Heap} {locs : List Loc} {cells slots : Nat} {Q : State → Prop}
variable {cc : ByteArray} {pc : Nat} {ls : Array Slot} {rest : List Value} {A : Nat → Prop}
theorem l_sld (hx : p.tables.exec = Jvm.exec) (hb : c.code = cc) {b L : Nat} {xs : Nat → Int32} {v : Int32} (hX : va_X b L xs s s.heap) (hbl : b < s.heap.size) (hbA : ¬ A b) (hS : va_S A s.heap H locs) {j : Nat} (hj : j < L) (hL : L < 2 ^ 31) (hv : xs j = v) (hdg : decode cc pc = .ok (.iaload, 1))
    (kk : W p l e R s m args below meth c H locs cells slots Q (F0 m (pc + 1) ls (.int v :: rest))) : W p l e R s m args below meth c H locs cells slots Q (F0 m pc ls (.int (nI j) :: .ref b :: rest)) :=
  va_sld hx hb hX hbl hbA hS (vp_in_nI hj hL) hdg (by rw [nI_clamp (Nat.lt_trans hj hL), hv]; exact kk)
end LROWS
set_option maxRecDepth 100000 in
set_option maxHeartbeats 4000000 in
theorem st_box_k {p : Program} {l : Launch} {e : Env} {s : State} {m : MethodId} {args : Array Value} {below : List Frame} {meth : Method} {c : Code} {Q : State → Prop} (hl9 : l.stackTraces = false) {D : va_G} {k : ClassId × ClassId × ClassId} {a : Nat → Nat} {B0 : Nat} {w : Nat → va_E} (hA : gA B0 a) (hx : p.tables.exec = Jvm.exec) (hb : c.code = cL_law) (hml : c.maxLocals = 8) (hown : s.vm.findClass RL = some m.cls) (hts : ∀ w ∈ TB, w.before args s = true) (hB : B0 ≤ s.heap.size) (hK : va_K D vwCl (gT k) s) (hXS : xS B0 s) {b Ls : Nat} {xs : Nat → Int32} (hX : va_X b Ls xs s s.heap) (hbl : b < s.heap.size) (hbA : ¬ gF B0 b) (hL9 : Ls ≤ 2048) {ii : Nat} (hi4 : ii + 4 ≤ Ls) {n : Nat} {up : Nat → Int64} {lo : Nat → Int64} {fa : Nat → Int32} {we : Nat → Int32} {ti : Nat → Int32} {ri : Nat → Int32} {jo : Nat → Int32} {oo : Nat → Int64} {th : Int32} {nr : Nat} {nf : Nat} {bw : Int32} {bd : Int32} {nt : Nat} {rd : Nat → Int32} {ma : Nat → Int32} {mb : Nat → Int32} {mc : Nat → Int32} {co : Nat → Int32} {jn : Nat → Int32} {ro : Nat → Int32} (hsX : sX k a w ) (hsP : sP k a w n up lo fa we ti ri jo) (hsO : sO k a w oo) (hsD : sD k a w th n nr nf bw bd nt) (hsDP : sDP k a w rd ma mb mc co jn ro) (x : Int32) (y : Int32) (z : Int32) (h_1 : xs (ii + 1) = x) (h_2 : xs (ii + 2) = y) (h_3 : xs (ii + 3) = z) (hn : n < 12) (h1 : szR x) (h2 : szR y) (h3 : szR z) (hnD : n < 12) (h1D : szR x) (h2D : szR y) (h3D : szR z) (hval : (nI n).toInt64 = (nI n).toInt64) {H : Heap} {locs : List Loc} {ls : Array Slot} (hG : gW D a w H) (hS : va_S (gF B0) s.heap H locs) (hl : lv_has ls 8 [(0, .ref b), (1, .ref (a 0)), (2, .ref (a 22)), (3, .ref (a 21)), (4, .int (nI ii))]) {cs ss : Nat} (hcs : cs + 1 ≤ 1087) (hss : ss + 6 ≤ 9297)
 (kk : ∀ (w' : Nat → va_E) (H' : Heap) (locs' : List Loc) (ls' : Array Slot) (up' : Nat → Int64) (lo' : Nat → Int64) (fa' : Nat → Int32) (we' : Nat → Int32) (ti' : Nat → Int32) (ri' : Nat → Int32) , sX k a w' → sP k a w' (n + 1) up' lo' fa' we' ti' ri' jo → sO k a w' (vp_updL oo 0 ((nI n).toInt64)) → sD k a w' 0 (n + 1) nr nf bw bd nt → sDP k a w' (upd rd n (b2i False)) (upd ma n x) (upd mb n y) (upd mc n z) (co6 co n) jn (upd ro n (-1)) → (up' = vp_updL up n (x.toInt64 * y.toInt64 * z.toInt64) ∧ fa' = upd fa n 6 ∧ ri' = upd ri n (-1) ∧ adB n 6 (qB x y z) lo we ti lo' we' ti') → (∀ z, ((z < 1 ∨ 8 < z) ∧ z ≠ 21) ∧ (z < 22 ∨ 29 < z) → w' z = w z) → gW D a w' H' → va_S (gF B0) s.heap H' locs' → lv_has ls' 8 [(0, .ref b), (1, .ref (a 0)), (2, .ref (a 22)), (3, .ref (a 21)), (4, .int (nI ii))] → W p l e room_1 s m args below meth c H' locs' (cs + 0) (ss + 0) Q (F0 m 1235 ls' [])) : W p l e room_1 s m args below meth c H locs cs ss Q (F0 m 124 ls []) := by
  have hsX0 := hsX
  obtain ⟨hsP1, hsP2, hsP3, hsP4, hsP5, hsP6, hsP7, hsP8⟩ := hsP
  have hsO21 := hsO
  have hsD22 := hsD
  obtain ⟨hsDP23, hsDP24, hsDP25, hsDP26, hsDP27, hsDP28, hsDP29⟩ := hsDP
  refine lv_aload_n hx hb dL_law_124 rfl (lv_at hl 1 rfl) ?_
  refine lv_aload_n hx hb dL_law_125 rfl (lv_at hl 0 rfl) ?_
  refine lv_iload hx hb dL_law_126 (lv_at hl 4 rfl) ?_
  refine lv_iconst (v := 1) hx hb dL_law_128 (by decide) ?_
  refine ln_iadd (x := ii) (y := 1) hx hb dL_law_129 ?_
  refine l_sld (v := x) hx hb hX hbl hbA hS (j := ii + 1) (by omega) (by omega) h_1 dL_law_130 ?_
  refine lv_aload_n hx hb dL_law_131 rfl (lv_at hl 0 rfl) ?_
  refine lv_iload hx hb dL_law_132 (lv_at hl 4 rfl) ?_
  refine lv_iconst (v := 2) hx hb dL_law_134 (by decide) ?_
  refine ln_iadd (x := ii) (y := 2) hx hb dL_law_135 ?_
  refine l_sld (v := y) hx hb hX hbl hbA hS (j := ii + 2) (by omega) (by omega) h_2 dL_law_136 ?_
  refine lv_aload_n hx hb dL_law_137 rfl (lv_at hl 0 rfl) ?_
  refine lv_iload hx hb dL_law_138 (lv_at hl 4 rfl) ?_
  refine lv_iconst (v := 3) hx hb dL_law_140 (by decide) ?_
  refine ln_iadd (x := ii) (y := 3) hx hb dL_law_141 ?_
  refine l_sld (v := z) hx hb hX hbl hbA hS (j := ii + 3) (by omega) (by omega) h_3 dL_law_142 ?_
  refine lv_aload_n hx hb dL_law_143 rfl (lv_at hl 3 rfl) ?_
  refine h_Si (As := [.ref (a 0), .int x, .int y, .int z, .ref (a 21)]) (rest := []) (kL_box_k hA hsX0 ⟨hsP1, hsP2, hsP3, hsP4, hsP5, hsP6, hsP7, hsP8⟩ hsO21 x y z hn h1 h2 h3) calL_box mlL_83 hx hb hml hown hts hB hG hK hS ⟨by decide, by decide⟩ rfl hl.1 rfl (Nat.le_of_ble_eq_true rfl) dL_law_144 ⟨by show cs + 0 ≤ 1087; omega, by show ss + 0 ≤ 9297; omega⟩ (fun r1 w2 H locs hp3 hG hS => ?_)
  obtain ⟨up_15, lo_16, fa_17, we_18, ti_19, ri_20, er13, ⟨h4, h5, h6, h7, h8, h9, h10, h11⟩, h12, hx21, hfr14⟩ := hp3
  have h22 : w2 0 = .inr (0, [.ref (a 1), .ref (a 9), .ref (a 12), .ref (a 15)]) := (hfr14 0 (by omega)).trans hsX0
  have h23 : w2 22 = .inr (5, [.int th, .int (nI n), .ref (a 23), .ref (a 24), .ref (a 25), .ref (a 26), .ref (a 27), .ref (a 28), .ref (a 29), .int (nI nr), .ref (a 30), .ref (a 31), .int (nI nf), .ref (a 32), .ref (a 33), .int bw, .int bd, .int (nI nt), .ref (a 34), .ref (a 35), .ref (a 36), .ref (a 37)]) := (hfr14 22 (by omega)).trans hsD22
  have h24 : w2 23 = .inl (k.2.2, 12, .inl rd) := (hfr14 23 (by omega)).trans hsDP23
  have h25 : w2 24 = .inl (k.1, 12, .inl ma) := (hfr14 24 (by omega)).trans hsDP24
  have h26 : w2 25 = .inl (k.1, 12, .inl mb) := (hfr14 25 (by omega)).trans hsDP25
  have h27 : w2 26 = .inl (k.1, 12, .inl mc) := (hfr14 26 (by omega)).trans hsDP26
  have h28 : w2 27 = .inl (k.1, 72, .inl co) := (hfr14 27 (by omega)).trans hsDP27
  have h29 : w2 28 = .inl (k.1, 12, .inl jn) := (hfr14 28 (by omega)).trans hsDP28
  have h30 : w2 29 = .inl (k.1, 12, .inl ro) := (hfr14 29 (by omega)).trans hsDP29
  rw [er13]
  refine lv_istore (lv' := [(5, .int 0), (0, .ref b), (1, .ref (a 0)), (2, .ref (a 22)), (3, .ref (a 21)), (4, .int (nI ii))]) hx hb dL_law_147 hl (by decide) rfl (fun ls hl => ?_)
  refine lv_aload_n hx hb dL_law_149 rfl (lv_at hl 3 rfl) ?_
  refine lv_aload_n hx hb dL_law_150 rfl (lv_at hl 1 rfl) ?_
  refine lv_iload hx hb dL_law_151 (lv_at hl 5 rfl) ?_
  refine lv_iconst (v := 1) hx hb dL_law_153 (by decide) ?_
  refine ln_iadd (x := ii) (y := 1) hx hb dL_law_154 ?_
  refine l_sld (v := x) hx hb hX hbl hbA hS (j := ii + 1) (by omega) (by omega) h_1 dL_law_155 ?_
  refine lv_aload_n hx hb dL_law_156 rfl (lv_at hl 1 rfl) ?_
  refine lv_iload hx hb dL_law_157 (lv_at hl 5 rfl) ?_
  refine lv_iconst (v := 2) hx hb dL_law_159 (by decide) ?_
  refine ln_iadd (x := ii) (y := 2) hx hb dL_law_160 ?_
  refine l_sld (v := y) hx hb hX hbl hbA hS (j := ii + 2) (by omega) (by omega) h_2 dL_law_161 ?_
  refine lv_aload_n hx hb dL_law_162 rfl (lv_at hl 1 rfl) ?_
  refine lv_iload hx hb dL_law_163 (lv_at hl 5 rfl) ?_
  refine lv_iconst (v := 3) hx hb dL_law_165 (by decide) ?_
  refine ln_iadd (x := ii) (y := 3) hx hb dL_law_166 ?_
  refine l_sld (v := z) hx hb hX hbl hbA hS (j := ii + 3) (by omega) (by omega) h_3 dL_law_167 ?_
  refine g_Vi (i := 22) (As := [.int x, .int y, .int z]) (rest := []) (kD_box_k hA h23 ⟨h24, h25, h26, h27, h28, h29, h30⟩ x y z hnD h1D h2D h3D) calD_box cvD_box mlL_88 hx hb hml hown hts hB hG hK hS (by decide) h23 rfl ⟨by decide, by decide⟩ rfl hl.1 rfl (Nat.le_of_ble_eq_true rfl) dL_law_168 ⟨by show cs + 0 + 0 ≤ 1087; omega, by show ss + 0 + 0 ≤ 9297; omega⟩ (fun r31 w32 H locs hp33 hG hS => ?_)
  obtain ⟨er42, h34, ⟨h35, h36, h37, h38, h39, h40, h41⟩, hfr43⟩ := hp33
  have h44 : w32 0 = .inr (0, [.ref (a 1), .ref (a 9), .ref (a 12), .ref (a 15)]) := (hfr43 0 (by omega)).trans h22
  have h45 : w32 1 = .inr (1, [.ref (a 2), .ref (a 3), .ref (a 4), .ref (a 5), .ref (a 6), .ref (a 7), .ref (a 8), .int (nI (n + 1))]) := (hfr43 1 (by omega)).trans h4
  have h46 : w32 2 = .inl (k.2.1, 12, .inr (.inl up_15)) := (hfr43 2 (by omega)).trans h5
  have h47 : w32 3 = .inl (k.2.1, 12, .inr (.inl lo_16)) := (hfr43 3 (by omega)).trans h6
  have h48 : w32 4 = .inl (k.1, 12, .inl fa_17) := (hfr43 4 (by omega)).trans h7
  have h49 : w32 5 = .inl (k.1, 72, .inl we_18) := (hfr43 5 (by omega)).trans h8
  have h50 : w32 6 = .inl (k.1, 72, .inl ti_19) := (hfr43 6 (by omega)).trans h9
  have h51 : w32 7 = .inl (k.1, 12, .inl ri_20) := (hfr43 7 (by omega)).trans h10
  have h52 : w32 8 = .inl (k.2.2, 144, .inl jo) := (hfr43 8 (by omega)).trans h11
  have h53 : w32 21 = .inl (k.2.1, 1, .inr (.inl (vp_updL oo 0 ((nI n).toInt64)))) := (hfr43 21 (by omega)).trans h12
  rw [er42]
  refine lv_istore (lv' := [(6, .int (nI n)), (5, .int 0), (0, .ref b), (1, .ref (a 0)), (2, .ref (a 22)), (3, .ref (a 21)), (4, .int (nI ii))]) hx hb dL_law_171 hl (by decide) rfl (fun ls hl => ?_)
  refine lv_aload_n hx hb dL_law_173 rfl (lv_at hl 4 rfl) ?_
  refine g_ViR (i := 22) (As := []) (rest := []) (kD_thrown hA h34) calD_thrown cvD_thrown mlL_89 hx hb hml hown hts hB hG hK hS (by decide) h34 rfl ⟨by decide, by decide⟩ rfl hl.1 rfl (Nat.le_of_ble_eq_true rfl) dL_law_174 ⟨by show cs + 0 + 0 + 0 ≤ 1087; omega, by show ss + 0 + 0 + 0 ≤ 9297; omega⟩ (fun H locs hG hS => ?_)
  refine lv_iload hx hb dL_law_177 (lv_at hl 1 rfl) ?_
  refine lv_icmp_eq (tgt := 184) hx hb dL_law_179 (by decide) (fun _ => ?_) (fun h9 => absurd h9 (by decide))
  refine lv_iload hx hb dL_law_184 (lv_at hl 1 rfl) ?_
  refine lv_if_ne (tgt := 201) hx hb dL_law_186 (by decide) (fun h9 => absurd h9 (by decide)) (fun _ => ?_)
  refine lv_aload_n hx hb dL_law_189 rfl (lv_at hl 5 rfl) ?_
  refine lv_iconst (v := 0) hx hb dL_law_190 (by decide) ?_
  refine g_lald hx hb hK hG 21 (by decide) h53 (j := 0) (by omega) (by decide) dL_law_191 ?_
  refine lv_iload hx hb dL_law_192 (lv_at hl 0 rfl) ?_
  refine lv_i2l hx hb dL_law_194 rfl ?_
  refine W.lcmp hx hb dL_law_195 ?_
  refine lc_if_eq (tgt := 201) hx hb dL_law_196 (by decide) (fun c56 => ?_) (fun c56 => (absurd (pk_uLs.trans hval) c56))
  refine lv_goto (tgt := 1235) hx hb dL_law_201 (by decide) ?_
  exact kk _ _ _ _ up_15 lo_16 fa_17 we_18 ti_19 ri_20 h44 ⟨h45, h46, h47, h48, h49, h50, h51, h52⟩ h53 h34 ⟨h35, h36, h37, h38, h39, h40, h41⟩ hx21 (fun z hz => (hfr43 z hz.2).trans (hfr14 z hz.1)) hG hS (lv_sub hl [2, 3, 4, 5, 6] rfl)

set_option maxRecDepth 100000 in
set_option maxHeartbeats 4000000 in
theorem st_box_f {p : Program} {l : Launch} {e : Env} {s : State} {m : MethodId} {args : Array Value} {below : List Frame} {meth : Method} {c : Code} {Q : State → Prop} (hl9 : l.stackTraces = false) {D : va_G} {k : ClassId × ClassId × ClassId} {a : Nat → Nat} {B0 : Nat} {w : Nat → va_E} (hA : gA B0 a) (hx : p.tables.exec = Jvm.exec) (hb : c.code = cL_law) (hml : c.maxLocals = 8) (hown : s.vm.findClass RL = some m.cls) (hts : ∀ w ∈ TB, w.before args s = true) (hB : B0 ≤ s.heap.size) (hK : va_K D vwCl (gT k) s) (hXS : xS B0 s) {b Ls : Nat} {xs : Nat → Int32} (hX : va_X b Ls xs s s.heap) (hbl : b < s.heap.size) (hbA : ¬ gF B0 b) (hL9 : Ls ≤ 2048) {ii : Nat} (hi4 : ii + 4 ≤ Ls) {n : Nat} {up : Nat → Int64} {lo : Nat → Int64} {fa : Nat → Int32} {we : Nat → Int32} {ti : Nat → Int32} {ri : Nat → Int32} {jo : Nat → Int32} {th : Int32} {nr : Nat} {nf : Nat} {bw : Int32} {bd : Int32} {nt : Nat} {rd : Nat → Int32} {ma : Nat → Int32} {mb : Nat → Int32} {mc : Nat → Int32} {co : Nat → Int32} {jn : Nat → Int32} {ro : Nat → Int32} (hsX : sX k a w ) (hsP : sP k a w n up lo fa we ti ri jo) (hsD : sD k a w th n nr nf bw bd nt) (hsDP : sDP k a w rd ma mb mc co jn ro) (x : Int32) (y : Int32) (z : Int32) (h_1 : xs (ii + 1) = x) (h_2 : xs (ii + 2) = y) (h_3 : xs (ii + 3) = z) (hn : n = 12) (hnD : n = 12) {H : Heap} {locs : List Loc} {ls : Array Slot} (hG : gW D a w H) (hS : va_S (gF B0) s.heap H locs) (hl : lv_has ls 8 [(0, .ref b), (1, .ref (a 0)), (2, .ref (a 22)), (3, .ref (a 21)), (4, .int (nI ii))]) {cs ss : Nat} (hcs : cs + 1 ≤ 1087) (hss : ss + 6 ≤ 9297)
 (kk : ∀ (w' : Nat → va_E) (H' : Heap) (locs' : List Loc) (ls' : Array Slot) , sX k a w' → sP k a w' n up lo fa we ti ri jo → sD k a w' 1 n nr nf bw bd nt → sDP k a w' rd ma mb mc co jn ro → (∀ z, (z < 22 ∨ 29 < z) → w' z = w z) → gW D a w' H' → va_S (gF B0) s.heap H' locs' → lv_has ls' 8 [(0, .ref b), (1, .ref (a 0)), (2, .ref (a 22)), (3, .ref (a 21)), (4, .int (nI ii))] → W p l e room_1 s m args below meth c H' locs' (cs + 1) (ss + 6) Q (F0 m 1235 ls' [])) : W p l e room_1 s m args below meth c H locs cs ss Q (F0 m 124 ls []) := by
  have hsX0 := hsX
  obtain ⟨hsP1, hsP2, hsP3, hsP4, hsP5, hsP6, hsP7, hsP8⟩ := hsP
  have hsD22 := hsD
  obtain ⟨hsDP23, hsDP24, hsDP25, hsDP26, hsDP27, hsDP28, hsDP29⟩ := hsDP
  refine lv_aload_n hx hb dL_law_124 rfl (lv_at hl 1 rfl) ?_
  refine lv_aload_n hx hb dL_law_125 rfl (lv_at hl 0 rfl) ?_
  refine lv_iload hx hb dL_law_126 (lv_at hl 4 rfl) ?_
  refine lv_iconst (v := 1) hx hb dL_law_128 (by decide) ?_
  refine ln_iadd (x := ii) (y := 1) hx hb dL_law_129 ?_
  refine l_sld (v := x) hx hb hX hbl hbA hS (j := ii + 1) (by omega) (by omega) h_1 dL_law_130 ?_
  refine lv_aload_n hx hb dL_law_131 rfl (lv_at hl 0 rfl) ?_
  refine lv_iload hx hb dL_law_132 (lv_at hl 4 rfl) ?_
  refine lv_iconst (v := 2) hx hb dL_law_134 (by decide) ?_
  refine ln_iadd (x := ii) (y := 2) hx hb dL_law_135 ?_
  refine l_sld (v := y) hx hb hX hbl hbA hS (j := ii + 2) (by omega) (by omega) h_2 dL_law_136 ?_
  refine lv_aload_n hx hb dL_law_137 rfl (lv_at hl 0 rfl) ?_
  refine lv_iload hx hb dL_law_138 (lv_at hl 4 rfl) ?_
  refine lv_iconst (v := 3) hx hb dL_law_140 (by decide) ?_
  refine ln_iadd (x := ii) (y := 3) hx hb dL_law_141 ?_
  refine l_sld (v := z) hx hb hX hbl hbA hS (j := ii + 3) (by omega) (by omega) h_3 dL_law_142 ?_
  refine lv_aload_n hx hb dL_law_143 rfl (lv_at hl 3 rfl) ?_
  refine y_Si (As := [.ref (a 0), .int x, .int y, .int z, .ref (a 21)]) (rest := []) (kL_box_f hl9 hA hsX0 ⟨hsP1, hsP2, hsP3, hsP4, hsP5, hsP6, hsP7, hsP8⟩ x y z hn) calL_box mlL_83 hx hb hml hown hts hB hG hK hS hXS ⟨by decide, by decide⟩ rfl hl.1 rfl (Nat.le_of_ble_eq_true rfl) dL_law_144 ⟨by show cs + 1 ≤ 1087; omega, by show ss + 6 ≤ 9297; omega⟩ (fun H locs hG hS => ?_)
  refine lv_istore (lv' := [(5, .int 1), (0, .ref b), (1, .ref (a 0)), (2, .ref (a 22)), (3, .ref (a 21)), (4, .int (nI ii))]) hx hb dL_law_147 hl (by decide) rfl (fun ls hl => ?_)
  refine lv_aload_n hx hb dL_law_149 rfl (lv_at hl 3 rfl) ?_
  refine lv_aload_n hx hb dL_law_150 rfl (lv_at hl 1 rfl) ?_
  refine lv_iload hx hb dL_law_151 (lv_at hl 5 rfl) ?_
  refine lv_iconst (v := 1) hx hb dL_law_153 (by decide) ?_
  refine ln_iadd (x := ii) (y := 1) hx hb dL_law_154 ?_
  refine l_sld (v := x) hx hb hX hbl hbA hS (j := ii + 1) (by omega) (by omega) h_1 dL_law_155 ?_
  refine lv_aload_n hx hb dL_law_156 rfl (lv_at hl 1 rfl) ?_
  refine lv_iload hx hb dL_law_157 (lv_at hl 5 rfl) ?_
  refine lv_iconst (v := 2) hx hb dL_law_159 (by decide) ?_
  refine ln_iadd (x := ii) (y := 2) hx hb dL_law_160 ?_
  refine l_sld (v := y) hx hb hX hbl hbA hS (j := ii + 2) (by omega) (by omega) h_2 dL_law_161 ?_
  refine lv_aload_n hx hb dL_law_162 rfl (lv_at hl 1 rfl) ?_
  refine lv_iload hx hb dL_law_163 (lv_at hl 5 rfl) ?_
  refine lv_iconst (v := 3) hx hb dL_law_165 (by decide) ?_
  refine ln_iadd (x := ii) (y := 3) hx hb dL_law_166 ?_
  refine l_sld (v := z) hx hb hX hbl hbA hS (j := ii + 3) (by omega) (by omega) h_3 dL_law_167 ?_
  refine g_Vi (i := 22) (As := [.int x, .int y, .int z]) (rest := []) (kD_box_f hA hsD22 ⟨hsDP23, hsDP24, hsDP25, hsDP26, hsDP27, hsDP28, hsDP29⟩ x y z hnD) calD_box cvD_box mlL_88 hx hb hml hown hts hB hG hK hS (by decide) hsD22 rfl ⟨by decide, by decide⟩ rfl hl.1 rfl (Nat.le_of_ble_eq_true rfl) dL_law_168 ⟨by show cs + 1 + 0 ≤ 1087; omega, by show ss + 6 + 0 ≤ 9297; omega⟩ (fun r1 w2 H locs hp3 hG hS => ?_)
  obtain ⟨er12, h4, ⟨h5, h6, h7, h8, h9, h10, h11⟩, hfr13⟩ := hp3
  have h14 : w2 0 = .inr (0, [.ref (a 1), .ref (a 9), .ref (a 12), .ref (a 15)]) := (hfr13 0 (by omega)).trans hsX0
  have h15 : w2 1 = .inr (1, [.ref (a 2), .ref (a 3), .ref (a 4), .ref (a 5), .ref (a 6), .ref (a 7), .ref (a 8), .int (nI n)]) := (hfr13 1 (by omega)).trans hsP1
  have h16 : w2 2 = .inl (k.2.1, 12, .inr (.inl up)) := (hfr13 2 (by omega)).trans hsP2
  have h17 : w2 3 = .inl (k.2.1, 12, .inr (.inl lo)) := (hfr13 3 (by omega)).trans hsP3
  have h18 : w2 4 = .inl (k.1, 12, .inl fa) := (hfr13 4 (by omega)).trans hsP4
  have h19 : w2 5 = .inl (k.1, 72, .inl we) := (hfr13 5 (by omega)).trans hsP5
  have h20 : w2 6 = .inl (k.1, 72, .inl ti) := (hfr13 6 (by omega)).trans hsP6
  have h21 : w2 7 = .inl (k.1, 12, .inl ri) := (hfr13 7 (by omega)).trans hsP7
  have h22 : w2 8 = .inl (k.2.2, 144, .inl jo) := (hfr13 8 (by omega)).trans hsP8
  rw [er12]
  refine lv_istore (lv' := [(6, .int 0), (5, .int 1), (0, .ref b), (1, .ref (a 0)), (2, .ref (a 22)), (3, .ref (a 21)), (4, .int (nI ii))]) hx hb dL_law_171 hl (by decide) rfl (fun ls hl => ?_)
  refine lv_aload_n hx hb dL_law_173 rfl (lv_at hl 4 rfl) ?_
  refine g_ViR (i := 22) (As := []) (rest := []) (kD_thrown hA h4) calD_thrown cvD_thrown mlL_89 hx hb hml hown hts hB hG hK hS (by decide) h4 rfl ⟨by decide, by decide⟩ rfl hl.1 rfl (Nat.le_of_ble_eq_true rfl) dL_law_174 ⟨by show cs + 1 + 0 + 0 ≤ 1087; omega, by show ss + 6 + 0 + 0 ≤ 9297; omega⟩ (fun H locs hG hS => ?_)
  refine lv_iload hx hb dL_law_177 (lv_at hl 1 rfl) ?_
  refine lv_icmp_eq (tgt := 184) hx hb dL_law_179 (by decide) (fun _ => ?_) (fun h9 => absurd h9 (by decide))
  refine lv_iload hx hb dL_law_184 (lv_at hl 1 rfl) ?_
  refine lv_if_ne (tgt := 201) hx hb dL_law_186 (by decide) (fun _ => ?_) (fun h9 => absurd h9 (by decide))
  refine lv_goto (tgt := 1235) hx hb dL_law_201 (by decide) ?_
  exact kk _ _ _ _  h14 ⟨h15, h16, h17, h18, h19, h20, h21, h22⟩ h4 ⟨h5, h6, h7, h8, h9, h10, h11⟩  hfr13 hG hS (lv_sub hl [2, 3, 4, 5, 6] rfl)

set_option maxRecDepth 100000 in
set_option maxHeartbeats 4000000 in
theorem st_box_z {p : Program} {l : Launch} {e : Env} {s : State} {m : MethodId} {args : Array Value} {below : List Frame} {meth : Method} {c : Code} {Q : State → Prop} (hl9 : l.stackTraces = false) {D : va_G} {k : ClassId × ClassId × ClassId} {a : Nat → Nat} {B0 : Nat} {w : Nat → va_E} (hA : gA B0 a) (hx : p.tables.exec = Jvm.exec) (hb : c.code = cL_law) (hml : c.maxLocals = 8) (hown : s.vm.findClass RL = some m.cls) (hts : ∀ w ∈ TB, w.before args s = true) (hB : B0 ≤ s.heap.size) (hK : va_K D vwCl (gT k) s) (hXS : xS B0 s) {b Ls : Nat} {xs : Nat → Int32} (hX : va_X b Ls xs s s.heap) (hbl : b < s.heap.size) (hbA : ¬ gF B0 b) (hL9 : Ls ≤ 2048) {ii : Nat} (hi4 : ii + 4 ≤ Ls) {n : Nat} {up : Nat → Int64} {lo : Nat → Int64} {fa : Nat → Int32} {we : Nat → Int32} {ti : Nat → Int32} {ri : Nat → Int32} {jo : Nat → Int32} {th : Int32} {nr : Nat} {nf : Nat} {bw : Int32} {bd : Int32} {nt : Nat} {rd : Nat → Int32} {ma : Nat → Int32} {mb : Nat → Int32} {mc : Nat → Int32} {co : Nat → Int32} {jn : Nat → Int32} {ro : Nat → Int32} (hsX : sX k a w ) (hsP : sP k a w n up lo fa we ti ri jo) (hsD : sD k a w th n nr nf bw bd nt) (hsDP : sDP k a w rd ma mb mc co jn ro) (x : Int32) (y : Int32) (z : Int32) (h_1 : xs (ii + 1) = x) (h_2 : xs (ii + 2) = y) (h_3 : xs (ii + 3) = z) (hn : n < 12) (hz : ¬ (szR x ∧ szR y ∧ szR z)) (hnD : n < 12) (hzD : ¬ (szR x ∧ szR y ∧ szR z)) {H : Heap} {locs : List Loc} {ls : Array Slot} (hG : gW D a w H) (hS : va_S (gF B0) s.heap H locs) (hl : lv_has ls 8 [(0, .ref b), (1, .ref (a 0)), (2, .ref (a 22)), (3, .ref (a 21)), (4, .int (nI ii))]) {cs ss : Nat} (hcs : cs + 1 ≤ 1087) (hss : ss + 6 ≤ 9297)
 (kk : ∀ (w' : Nat → va_E) (H' : Heap) (locs' : List Loc) (ls' : Array Slot) , sX k a w' → sP k a w' n up lo fa we ti ri jo → sD k a w' 2 n nr nf bw bd nt → sDP k a w' rd ma mb mc co jn ro → (∀ z, (z < 22 ∨ 29 < z) → w' z = w z) → gW D a w' H' → va_S (gF B0) s.heap H' locs' → lv_has ls' 8 [(0, .ref b), (1, .ref (a 0)), (2, .ref (a 22)), (3, .ref (a 21)), (4, .int (nI ii))] → W p l e room_1 s m args below meth c H' locs' (cs + 1) (ss + 6) Q (F0 m 1235 ls' [])) : W p l e room_1 s m args below meth c H locs cs ss Q (F0 m 124 ls []) := by
  have hsX0 := hsX
  obtain ⟨hsP1, hsP2, hsP3, hsP4, hsP5, hsP6, hsP7, hsP8⟩ := hsP
  have hsD22 := hsD
  obtain ⟨hsDP23, hsDP24, hsDP25, hsDP26, hsDP27, hsDP28, hsDP29⟩ := hsDP
  refine lv_aload_n hx hb dL_law_124 rfl (lv_at hl 1 rfl) ?_
  refine lv_aload_n hx hb dL_law_125 rfl (lv_at hl 0 rfl) ?_
  refine lv_iload hx hb dL_law_126 (lv_at hl 4 rfl) ?_
  refine lv_iconst (v := 1) hx hb dL_law_128 (by decide) ?_
  refine ln_iadd (x := ii) (y := 1) hx hb dL_law_129 ?_
  refine l_sld (v := x) hx hb hX hbl hbA hS (j := ii + 1) (by omega) (by omega) h_1 dL_law_130 ?_
  refine lv_aload_n hx hb dL_law_131 rfl (lv_at hl 0 rfl) ?_
  refine lv_iload hx hb dL_law_132 (lv_at hl 4 rfl) ?_
  refine lv_iconst (v := 2) hx hb dL_law_134 (by decide) ?_
  refine ln_iadd (x := ii) (y := 2) hx hb dL_law_135 ?_
  refine l_sld (v := y) hx hb hX hbl hbA hS (j := ii + 2) (by omega) (by omega) h_2 dL_law_136 ?_
  refine lv_aload_n hx hb dL_law_137 rfl (lv_at hl 0 rfl) ?_
  refine lv_iload hx hb dL_law_138 (lv_at hl 4 rfl) ?_
  refine lv_iconst (v := 3) hx hb dL_law_140 (by decide) ?_
  refine ln_iadd (x := ii) (y := 3) hx hb dL_law_141 ?_
  refine l_sld (v := z) hx hb hX hbl hbA hS (j := ii + 3) (by omega) (by omega) h_3 dL_law_142 ?_
  refine lv_aload_n hx hb dL_law_143 rfl (lv_at hl 3 rfl) ?_
  refine y_Si (As := [.ref (a 0), .int x, .int y, .int z, .ref (a 21)]) (rest := []) (kL_box_z hl9 hA hsX0 ⟨hsP1, hsP2, hsP3, hsP4, hsP5, hsP6, hsP7, hsP8⟩ x y z hn hz) calL_box mlL_83 hx hb hml hown hts hB hG hK hS hXS ⟨by decide, by decide⟩ rfl hl.1 rfl (Nat.le_of_ble_eq_true rfl) dL_law_144 ⟨by show cs + 1 ≤ 1087; omega, by show ss + 6 ≤ 9297; omega⟩ (fun H locs hG hS => ?_)
  refine lv_istore (lv' := [(5, .int 2), (0, .ref b), (1, .ref (a 0)), (2, .ref (a 22)), (3, .ref (a 21)), (4, .int (nI ii))]) hx hb dL_law_147 hl (by decide) rfl (fun ls hl => ?_)
  refine lv_aload_n hx hb dL_law_149 rfl (lv_at hl 3 rfl) ?_
  refine lv_aload_n hx hb dL_law_150 rfl (lv_at hl 1 rfl) ?_
  refine lv_iload hx hb dL_law_151 (lv_at hl 5 rfl) ?_
  refine lv_iconst (v := 1) hx hb dL_law_153 (by decide) ?_
  refine ln_iadd (x := ii) (y := 1) hx hb dL_law_154 ?_
  refine l_sld (v := x) hx hb hX hbl hbA hS (j := ii + 1) (by omega) (by omega) h_1 dL_law_155 ?_
  refine lv_aload_n hx hb dL_law_156 rfl (lv_at hl 1 rfl) ?_
  refine lv_iload hx hb dL_law_157 (lv_at hl 5 rfl) ?_
  refine lv_iconst (v := 2) hx hb dL_law_159 (by decide) ?_
  refine ln_iadd (x := ii) (y := 2) hx hb dL_law_160 ?_
  refine l_sld (v := y) hx hb hX hbl hbA hS (j := ii + 2) (by omega) (by omega) h_2 dL_law_161 ?_
  refine lv_aload_n hx hb dL_law_162 rfl (lv_at hl 1 rfl) ?_
  refine lv_iload hx hb dL_law_163 (lv_at hl 5 rfl) ?_
  refine lv_iconst (v := 3) hx hb dL_law_165 (by decide) ?_
  refine ln_iadd (x := ii) (y := 3) hx hb dL_law_166 ?_
  refine l_sld (v := z) hx hb hX hbl hbA hS (j := ii + 3) (by omega) (by omega) h_3 dL_law_167 ?_
  refine g_Vi (i := 22) (As := [.int x, .int y, .int z]) (rest := []) (kD_box_z hA hsD22 ⟨hsDP23, hsDP24, hsDP25, hsDP26, hsDP27, hsDP28, hsDP29⟩ x y z hnD hzD) calD_box cvD_box mlL_88 hx hb hml hown hts hB hG hK hS (by decide) hsD22 rfl ⟨by decide, by decide⟩ rfl hl.1 rfl (Nat.le_of_ble_eq_true rfl) dL_law_168 ⟨by show cs + 1 + 0 ≤ 1087; omega, by show ss + 6 + 0 ≤ 9297; omega⟩ (fun r1 w2 H locs hp3 hG hS => ?_)
  obtain ⟨er12, h4, ⟨h5, h6, h7, h8, h9, h10, h11⟩, hfr13⟩ := hp3
  have h14 : w2 0 = .inr (0, [.ref (a 1), .ref (a 9), .ref (a 12), .ref (a 15)]) := (hfr13 0 (by omega)).trans hsX0
  have h15 : w2 1 = .inr (1, [.ref (a 2), .ref (a 3), .ref (a 4), .ref (a 5), .ref (a 6), .ref (a 7), .ref (a 8), .int (nI n)]) := (hfr13 1 (by omega)).trans hsP1
  have h16 : w2 2 = .inl (k.2.1, 12, .inr (.inl up)) := (hfr13 2 (by omega)).trans hsP2
  have h17 : w2 3 = .inl (k.2.1, 12, .inr (.inl lo)) := (hfr13 3 (by omega)).trans hsP3
  have h18 : w2 4 = .inl (k.1, 12, .inl fa) := (hfr13 4 (by omega)).trans hsP4
  have h19 : w2 5 = .inl (k.1, 72, .inl we) := (hfr13 5 (by omega)).trans hsP5
  have h20 : w2 6 = .inl (k.1, 72, .inl ti) := (hfr13 6 (by omega)).trans hsP6
  have h21 : w2 7 = .inl (k.1, 12, .inl ri) := (hfr13 7 (by omega)).trans hsP7
  have h22 : w2 8 = .inl (k.2.2, 144, .inl jo) := (hfr13 8 (by omega)).trans hsP8
  rw [er12]
  refine lv_istore (lv' := [(6, .int 0), (5, .int 2), (0, .ref b), (1, .ref (a 0)), (2, .ref (a 22)), (3, .ref (a 21)), (4, .int (nI ii))]) hx hb dL_law_171 hl (by decide) rfl (fun ls hl => ?_)
  refine lv_aload_n hx hb dL_law_173 rfl (lv_at hl 4 rfl) ?_
  refine g_ViR (i := 22) (As := []) (rest := []) (kD_thrown hA h4) calD_thrown cvD_thrown mlL_89 hx hb hml hown hts hB hG hK hS (by decide) h4 rfl ⟨by decide, by decide⟩ rfl hl.1 rfl (Nat.le_of_ble_eq_true rfl) dL_law_174 ⟨by show cs + 1 + 0 + 0 ≤ 1087; omega, by show ss + 6 + 0 + 0 ≤ 9297; omega⟩ (fun H locs hG hS => ?_)
  refine lv_iload hx hb dL_law_177 (lv_at hl 1 rfl) ?_
  refine lv_icmp_eq (tgt := 184) hx hb dL_law_179 (by decide) (fun _ => ?_) (fun h9 => absurd h9 (by decide))
  refine lv_iload hx hb dL_law_184 (lv_at hl 1 rfl) ?_
  refine lv_if_ne (tgt := 201) hx hb dL_law_186 (by decide) (fun _ => ?_) (fun h9 => absurd h9 (by decide))
  refine lv_goto (tgt := 1235) hx hb dL_law_201 (by decide) ?_
  exact kk _ _ _ _  h14 ⟨h15, h16, h17, h18, h19, h20, h21, h22⟩ h4 ⟨h5, h6, h7, h8, h9, h10, h11⟩  hfr13 hG hS (lv_sub hl [2, 3, 4, 5, 6] rfl)

set_option maxRecDepth 100000 in
set_option maxHeartbeats 4000000 in
theorem st_cylinder_k {p : Program} {l : Launch} {e : Env} {s : State} {m : MethodId} {args : Array Value} {below : List Frame} {meth : Method} {c : Code} {Q : State → Prop} (hl9 : l.stackTraces = false) {D : va_G} {k : ClassId × ClassId × ClassId} {a : Nat → Nat} {B0 : Nat} {w : Nat → va_E} (hA : gA B0 a) (hx : p.tables.exec = Jvm.exec) (hb : c.code = cL_law) (hml : c.maxLocals = 8) (hown : s.vm.findClass RL = some m.cls) (hts : ∀ w ∈ TB, w.before args s = true) (hB : B0 ≤ s.heap.size) (hK : va_K D vwCl (gT k) s) (hXS : xS B0 s) {b Ls : Nat} {xs : Nat → Int32} (hX : va_X b Ls xs s s.heap) (hbl : b < s.heap.size) (hbA : ¬ gF B0 b) (hL9 : Ls ≤ 2048) {ii : Nat} (hi4 : ii + 4 ≤ Ls) {n : Nat} {up : Nat → Int64} {lo : Nat → Int64} {fa : Nat → Int32} {we : Nat → Int32} {ti : Nat → Int32} {ri : Nat → Int32} {jo : Nat → Int32} {oo : Nat → Int64} {th : Int32} {nr : Nat} {nf : Nat} {bw : Int32} {bd : Int32} {nt : Nat} {rd : Nat → Int32} {ma : Nat → Int32} {mb : Nat → Int32} {mc : Nat → Int32} {co : Nat → Int32} {jn : Nat → Int32} {ro : Nat → Int32} (hsX : sX k a w ) (hsP : sP k a w n up lo fa we ti ri jo) (hsO : sO k a w oo) (hsD : sD k a w th n nr nf bw bd nt) (hsDP : sDP k a w rd ma mb mc co jn ro) (x : Int32) (y : Int32) (h_1 : xs (ii + 1) = x) (h_2 : xs (ii + 2) = y) (hn : n < 12) (h1 : szR x) (h2 : szR y) (hnD : n < 12) (h1D : szR x) (h2D : szR y) (hval : (nI n).toInt64 = (nI n).toInt64) {H : Heap} {locs : List Loc} {ls : Array Slot} (hG : gW D a w H) (hS : va_S (gF B0) s.heap H locs) (hl : lv_has ls 8 [(0, .ref b), (1, .ref (a 0)), (2, .ref (a 22)), (3, .ref (a 21)), (4, .int (nI ii))]) {cs ss : Nat} (hcs : cs + 1 ≤ 1087) (hss : ss + 6 ≤ 9297)
 (kk : ∀ (w' : Nat → va_E) (H' : Heap) (locs' : List Loc) (ls' : Array Slot) (up' : Nat → Int64) (lo' : Nat → Int64) (fa' : Nat → Int32) (we' : Nat → Int32) (ti' : Nat → Int32) (ri' : Nat → Int32) , sX k a w' → sP k a w' (n + 1) up' lo' fa' we' ti' ri' jo → sO k a w' (vp_updL oo 0 ((nI n).toInt64)) → sD k a w' 0 (n + 1) nr nf bw bd nt → sDP k a w' (upd rd n (b2i True)) (upd ma n x) (upd mb n y) (upd mc n 0) (co6 co n) jn (upd ro n (-1)) → (up' = vp_updL up n (x.toInt64 * y.toInt64) ∧ fa' = upd fa n 3 ∧ ri' = upd ri n (-1) ∧ adB n 3 (qC x y) lo we ti lo' we' ti') → (∀ z, ((z < 1 ∨ 8 < z) ∧ z ≠ 21) ∧ (z < 22 ∨ 29 < z) → w' z = w z) → gW D a w' H' → va_S (gF B0) s.heap H' locs' → lv_has ls' 8 [(0, .ref b), (1, .ref (a 0)), (2, .ref (a 22)), (3, .ref (a 21)), (4, .int (nI ii))] → W p l e room_1 s m args below meth c H' locs' (cs + 0) (ss + 0) Q (F0 m 1235 ls' [])) : W p l e room_1 s m args below meth c H locs cs ss Q (F0 m 204 ls []) := by
  have hsX0 := hsX
  obtain ⟨hsP1, hsP2, hsP3, hsP4, hsP5, hsP6, hsP7, hsP8⟩ := hsP
  have hsO21 := hsO
  have hsD22 := hsD
  obtain ⟨hsDP23, hsDP24, hsDP25, hsDP26, hsDP27, hsDP28, hsDP29⟩ := hsDP
  refine lv_aload_n hx hb dL_law_204 rfl (lv_at hl 1 rfl) ?_
  refine lv_aload_n hx hb dL_law_205 rfl (lv_at hl 0 rfl) ?_
  refine lv_iload hx hb dL_law_206 (lv_at hl 4 rfl) ?_
  refine lv_iconst (v := 1) hx hb dL_law_208 (by decide) ?_
  refine ln_iadd (x := ii) (y := 1) hx hb dL_law_209 ?_
  refine l_sld (v := x) hx hb hX hbl hbA hS (j := ii + 1) (by omega) (by omega) h_1 dL_law_210 ?_
  refine lv_aload_n hx hb dL_law_211 rfl (lv_at hl 0 rfl) ?_
  refine lv_iload hx hb dL_law_212 (lv_at hl 4 rfl) ?_
  refine lv_iconst (v := 2) hx hb dL_law_214 (by decide) ?_
  refine ln_iadd (x := ii) (y := 2) hx hb dL_law_215 ?_
  refine l_sld (v := y) hx hb hX hbl hbA hS (j := ii + 2) (by omega) (by omega) h_2 dL_law_216 ?_
  refine lv_aload_n hx hb dL_law_217 rfl (lv_at hl 3 rfl) ?_
  refine h_Si (As := [.ref (a 0), .int x, .int y, .ref (a 21)]) (rest := []) (kL_cylinder_k hA hsX0 ⟨hsP1, hsP2, hsP3, hsP4, hsP5, hsP6, hsP7, hsP8⟩ hsO21 x y hn h1 h2) calL_cylinder mlL_93 hx hb hml hown hts hB hG hK hS ⟨by decide, by decide⟩ rfl hl.1 rfl (Nat.le_of_ble_eq_true rfl) dL_law_218 ⟨by show cs + 0 ≤ 1087; omega, by show ss + 0 ≤ 9297; omega⟩ (fun r1 w2 H locs hp3 hG hS => ?_)
  obtain ⟨up_15, lo_16, fa_17, we_18, ti_19, ri_20, er13, ⟨h4, h5, h6, h7, h8, h9, h10, h11⟩, h12, hx21, hfr14⟩ := hp3
  have h22 : w2 0 = .inr (0, [.ref (a 1), .ref (a 9), .ref (a 12), .ref (a 15)]) := (hfr14 0 (by omega)).trans hsX0
  have h23 : w2 22 = .inr (5, [.int th, .int (nI n), .ref (a 23), .ref (a 24), .ref (a 25), .ref (a 26), .ref (a 27), .ref (a 28), .ref (a 29), .int (nI nr), .ref (a 30), .ref (a 31), .int (nI nf), .ref (a 32), .ref (a 33), .int bw, .int bd, .int (nI nt), .ref (a 34), .ref (a 35), .ref (a 36), .ref (a 37)]) := (hfr14 22 (by omega)).trans hsD22
  have h24 : w2 23 = .inl (k.2.2, 12, .inl rd) := (hfr14 23 (by omega)).trans hsDP23
  have h25 : w2 24 = .inl (k.1, 12, .inl ma) := (hfr14 24 (by omega)).trans hsDP24
  have h26 : w2 25 = .inl (k.1, 12, .inl mb) := (hfr14 25 (by omega)).trans hsDP25
  have h27 : w2 26 = .inl (k.1, 12, .inl mc) := (hfr14 26 (by omega)).trans hsDP26
  have h28 : w2 27 = .inl (k.1, 72, .inl co) := (hfr14 27 (by omega)).trans hsDP27
  have h29 : w2 28 = .inl (k.1, 12, .inl jn) := (hfr14 28 (by omega)).trans hsDP28
  have h30 : w2 29 = .inl (k.1, 12, .inl ro) := (hfr14 29 (by omega)).trans hsDP29
  rw [er13]
  refine lv_istore (lv' := [(5, .int 0), (0, .ref b), (1, .ref (a 0)), (2, .ref (a 22)), (3, .ref (a 21)), (4, .int (nI ii))]) hx hb dL_law_221 hl (by decide) rfl (fun ls hl => ?_)
  refine lv_aload_n hx hb dL_law_223 rfl (lv_at hl 3 rfl) ?_
  refine lv_aload_n hx hb dL_law_224 rfl (lv_at hl 1 rfl) ?_
  refine lv_iload hx hb dL_law_225 (lv_at hl 5 rfl) ?_
  refine lv_iconst (v := 1) hx hb dL_law_227 (by decide) ?_
  refine ln_iadd (x := ii) (y := 1) hx hb dL_law_228 ?_
  refine l_sld (v := x) hx hb hX hbl hbA hS (j := ii + 1) (by omega) (by omega) h_1 dL_law_229 ?_
  refine lv_aload_n hx hb dL_law_230 rfl (lv_at hl 1 rfl) ?_
  refine lv_iload hx hb dL_law_231 (lv_at hl 5 rfl) ?_
  refine lv_iconst (v := 2) hx hb dL_law_233 (by decide) ?_
  refine ln_iadd (x := ii) (y := 2) hx hb dL_law_234 ?_
  refine l_sld (v := y) hx hb hX hbl hbA hS (j := ii + 2) (by omega) (by omega) h_2 dL_law_235 ?_
  refine g_Vi (i := 22) (As := [.int x, .int y]) (rest := []) (kD_cylinder_k hA h23 ⟨h24, h25, h26, h27, h28, h29, h30⟩ x y hnD h1D h2D) calD_cylinder cvD_cylinder mlL_96 hx hb hml hown hts hB hG hK hS (by decide) h23 rfl ⟨by decide, by decide⟩ rfl hl.1 rfl (Nat.le_of_ble_eq_true rfl) dL_law_236 ⟨by show cs + 0 + 0 ≤ 1087; omega, by show ss + 0 + 0 ≤ 9297; omega⟩ (fun r31 w32 H locs hp33 hG hS => ?_)
  obtain ⟨er42, h34, ⟨h35, h36, h37, h38, h39, h40, h41⟩, hfr43⟩ := hp33
  have h44 : w32 0 = .inr (0, [.ref (a 1), .ref (a 9), .ref (a 12), .ref (a 15)]) := (hfr43 0 (by omega)).trans h22
  have h45 : w32 1 = .inr (1, [.ref (a 2), .ref (a 3), .ref (a 4), .ref (a 5), .ref (a 6), .ref (a 7), .ref (a 8), .int (nI (n + 1))]) := (hfr43 1 (by omega)).trans h4
  have h46 : w32 2 = .inl (k.2.1, 12, .inr (.inl up_15)) := (hfr43 2 (by omega)).trans h5
  have h47 : w32 3 = .inl (k.2.1, 12, .inr (.inl lo_16)) := (hfr43 3 (by omega)).trans h6
  have h48 : w32 4 = .inl (k.1, 12, .inl fa_17) := (hfr43 4 (by omega)).trans h7
  have h49 : w32 5 = .inl (k.1, 72, .inl we_18) := (hfr43 5 (by omega)).trans h8
  have h50 : w32 6 = .inl (k.1, 72, .inl ti_19) := (hfr43 6 (by omega)).trans h9
  have h51 : w32 7 = .inl (k.1, 12, .inl ri_20) := (hfr43 7 (by omega)).trans h10
  have h52 : w32 8 = .inl (k.2.2, 144, .inl jo) := (hfr43 8 (by omega)).trans h11
  have h53 : w32 21 = .inl (k.2.1, 1, .inr (.inl (vp_updL oo 0 ((nI n).toInt64)))) := (hfr43 21 (by omega)).trans h12
  rw [er42]
  refine lv_istore (lv' := [(6, .int (nI n)), (5, .int 0), (0, .ref b), (1, .ref (a 0)), (2, .ref (a 22)), (3, .ref (a 21)), (4, .int (nI ii))]) hx hb dL_law_239 hl (by decide) rfl (fun ls hl => ?_)
  refine lv_aload_n hx hb dL_law_241 rfl (lv_at hl 4 rfl) ?_
  refine g_ViR (i := 22) (As := []) (rest := []) (kD_thrown hA h34) calD_thrown cvD_thrown mlL_89 hx hb hml hown hts hB hG hK hS (by decide) h34 rfl ⟨by decide, by decide⟩ rfl hl.1 rfl (Nat.le_of_ble_eq_true rfl) dL_law_242 ⟨by show cs + 0 + 0 + 0 ≤ 1087; omega, by show ss + 0 + 0 + 0 ≤ 9297; omega⟩ (fun H locs hG hS => ?_)
  refine lv_iload hx hb dL_law_245 (lv_at hl 1 rfl) ?_
  refine lv_icmp_eq (tgt := 252) hx hb dL_law_247 (by decide) (fun _ => ?_) (fun h9 => absurd h9 (by decide))
  refine lv_iload hx hb dL_law_252 (lv_at hl 1 rfl) ?_
  refine lv_if_ne (tgt := 269) hx hb dL_law_254 (by decide) (fun h9 => absurd h9 (by decide)) (fun _ => ?_)
  refine lv_aload_n hx hb dL_law_257 rfl (lv_at hl 5 rfl) ?_
  refine lv_iconst (v := 0) hx hb dL_law_258 (by decide) ?_
  refine g_lald hx hb hK hG 21 (by decide) h53 (j := 0) (by omega) (by decide) dL_law_259 ?_
  refine lv_iload hx hb dL_law_260 (lv_at hl 0 rfl) ?_
  refine lv_i2l hx hb dL_law_262 rfl ?_
  refine W.lcmp hx hb dL_law_263 ?_
  refine lc_if_eq (tgt := 269) hx hb dL_law_264 (by decide) (fun c56 => ?_) (fun c56 => (absurd (pk_uLs.trans hval) c56))
  refine lv_goto (tgt := 1235) hx hb dL_law_269 (by decide) ?_
  exact kk _ _ _ _ up_15 lo_16 fa_17 we_18 ti_19 ri_20 h44 ⟨h45, h46, h47, h48, h49, h50, h51, h52⟩ h53 h34 ⟨h35, h36, h37, h38, h39, h40, h41⟩ hx21 (fun z hz => (hfr43 z hz.2).trans (hfr14 z hz.1)) hG hS (lv_sub hl [2, 3, 4, 5, 6] rfl)

set_option maxRecDepth 100000 in
set_option maxHeartbeats 4000000 in
theorem st_cylinder_f {p : Program} {l : Launch} {e : Env} {s : State} {m : MethodId} {args : Array Value} {below : List Frame} {meth : Method} {c : Code} {Q : State → Prop} (hl9 : l.stackTraces = false) {D : va_G} {k : ClassId × ClassId × ClassId} {a : Nat → Nat} {B0 : Nat} {w : Nat → va_E} (hA : gA B0 a) (hx : p.tables.exec = Jvm.exec) (hb : c.code = cL_law) (hml : c.maxLocals = 8) (hown : s.vm.findClass RL = some m.cls) (hts : ∀ w ∈ TB, w.before args s = true) (hB : B0 ≤ s.heap.size) (hK : va_K D vwCl (gT k) s) (hXS : xS B0 s) {b Ls : Nat} {xs : Nat → Int32} (hX : va_X b Ls xs s s.heap) (hbl : b < s.heap.size) (hbA : ¬ gF B0 b) (hL9 : Ls ≤ 2048) {ii : Nat} (hi4 : ii + 4 ≤ Ls) {n : Nat} {up : Nat → Int64} {lo : Nat → Int64} {fa : Nat → Int32} {we : Nat → Int32} {ti : Nat → Int32} {ri : Nat → Int32} {jo : Nat → Int32} {th : Int32} {nr : Nat} {nf : Nat} {bw : Int32} {bd : Int32} {nt : Nat} {rd : Nat → Int32} {ma : Nat → Int32} {mb : Nat → Int32} {mc : Nat → Int32} {co : Nat → Int32} {jn : Nat → Int32} {ro : Nat → Int32} (hsX : sX k a w ) (hsP : sP k a w n up lo fa we ti ri jo) (hsD : sD k a w th n nr nf bw bd nt) (hsDP : sDP k a w rd ma mb mc co jn ro) (x : Int32) (y : Int32) (h_1 : xs (ii + 1) = x) (h_2 : xs (ii + 2) = y) (hn : n = 12) (hnD : n = 12) {H : Heap} {locs : List Loc} {ls : Array Slot} (hG : gW D a w H) (hS : va_S (gF B0) s.heap H locs) (hl : lv_has ls 8 [(0, .ref b), (1, .ref (a 0)), (2, .ref (a 22)), (3, .ref (a 21)), (4, .int (nI ii))]) {cs ss : Nat} (hcs : cs + 1 ≤ 1087) (hss : ss + 6 ≤ 9297)
 (kk : ∀ (w' : Nat → va_E) (H' : Heap) (locs' : List Loc) (ls' : Array Slot) , sX k a w' → sP k a w' n up lo fa we ti ri jo → sD k a w' 1 n nr nf bw bd nt → sDP k a w' rd ma mb mc co jn ro → (∀ z, (z < 22 ∨ 29 < z) → w' z = w z) → gW D a w' H' → va_S (gF B0) s.heap H' locs' → lv_has ls' 8 [(0, .ref b), (1, .ref (a 0)), (2, .ref (a 22)), (3, .ref (a 21)), (4, .int (nI ii))] → W p l e room_1 s m args below meth c H' locs' (cs + 1) (ss + 6) Q (F0 m 1235 ls' [])) : W p l e room_1 s m args below meth c H locs cs ss Q (F0 m 204 ls []) := by
  have hsX0 := hsX
  obtain ⟨hsP1, hsP2, hsP3, hsP4, hsP5, hsP6, hsP7, hsP8⟩ := hsP
  have hsD22 := hsD
  obtain ⟨hsDP23, hsDP24, hsDP25, hsDP26, hsDP27, hsDP28, hsDP29⟩ := hsDP
  refine lv_aload_n hx hb dL_law_204 rfl (lv_at hl 1 rfl) ?_
  refine lv_aload_n hx hb dL_law_205 rfl (lv_at hl 0 rfl) ?_
  refine lv_iload hx hb dL_law_206 (lv_at hl 4 rfl) ?_
  refine lv_iconst (v := 1) hx hb dL_law_208 (by decide) ?_
  refine ln_iadd (x := ii) (y := 1) hx hb dL_law_209 ?_
  refine l_sld (v := x) hx hb hX hbl hbA hS (j := ii + 1) (by omega) (by omega) h_1 dL_law_210 ?_
  refine lv_aload_n hx hb dL_law_211 rfl (lv_at hl 0 rfl) ?_
  refine lv_iload hx hb dL_law_212 (lv_at hl 4 rfl) ?_
  refine lv_iconst (v := 2) hx hb dL_law_214 (by decide) ?_
  refine ln_iadd (x := ii) (y := 2) hx hb dL_law_215 ?_
  refine l_sld (v := y) hx hb hX hbl hbA hS (j := ii + 2) (by omega) (by omega) h_2 dL_law_216 ?_
  refine lv_aload_n hx hb dL_law_217 rfl (lv_at hl 3 rfl) ?_
  refine y_Si (As := [.ref (a 0), .int x, .int y, .ref (a 21)]) (rest := []) (kL_cylinder_f hl9 hA hsX0 ⟨hsP1, hsP2, hsP3, hsP4, hsP5, hsP6, hsP7, hsP8⟩ x y hn) calL_cylinder mlL_93 hx hb hml hown hts hB hG hK hS hXS ⟨by decide, by decide⟩ rfl hl.1 rfl (Nat.le_of_ble_eq_true rfl) dL_law_218 ⟨by show cs + 1 ≤ 1087; omega, by show ss + 6 ≤ 9297; omega⟩ (fun H locs hG hS => ?_)
  refine lv_istore (lv' := [(5, .int 1), (0, .ref b), (1, .ref (a 0)), (2, .ref (a 22)), (3, .ref (a 21)), (4, .int (nI ii))]) hx hb dL_law_221 hl (by decide) rfl (fun ls hl => ?_)
  refine lv_aload_n hx hb dL_law_223 rfl (lv_at hl 3 rfl) ?_
  refine lv_aload_n hx hb dL_law_224 rfl (lv_at hl 1 rfl) ?_
  refine lv_iload hx hb dL_law_225 (lv_at hl 5 rfl) ?_
  refine lv_iconst (v := 1) hx hb dL_law_227 (by decide) ?_
  refine ln_iadd (x := ii) (y := 1) hx hb dL_law_228 ?_
  refine l_sld (v := x) hx hb hX hbl hbA hS (j := ii + 1) (by omega) (by omega) h_1 dL_law_229 ?_
  refine lv_aload_n hx hb dL_law_230 rfl (lv_at hl 1 rfl) ?_
  refine lv_iload hx hb dL_law_231 (lv_at hl 5 rfl) ?_
  refine lv_iconst (v := 2) hx hb dL_law_233 (by decide) ?_
  refine ln_iadd (x := ii) (y := 2) hx hb dL_law_234 ?_
  refine l_sld (v := y) hx hb hX hbl hbA hS (j := ii + 2) (by omega) (by omega) h_2 dL_law_235 ?_
  refine g_Vi (i := 22) (As := [.int x, .int y]) (rest := []) (kD_cylinder_f hA hsD22 ⟨hsDP23, hsDP24, hsDP25, hsDP26, hsDP27, hsDP28, hsDP29⟩ x y hnD) calD_cylinder cvD_cylinder mlL_96 hx hb hml hown hts hB hG hK hS (by decide) hsD22 rfl ⟨by decide, by decide⟩ rfl hl.1 rfl (Nat.le_of_ble_eq_true rfl) dL_law_236 ⟨by show cs + 1 + 0 ≤ 1087; omega, by show ss + 6 + 0 ≤ 9297; omega⟩ (fun r1 w2 H locs hp3 hG hS => ?_)
  obtain ⟨er12, h4, ⟨h5, h6, h7, h8, h9, h10, h11⟩, hfr13⟩ := hp3
  have h14 : w2 0 = .inr (0, [.ref (a 1), .ref (a 9), .ref (a 12), .ref (a 15)]) := (hfr13 0 (by omega)).trans hsX0
  have h15 : w2 1 = .inr (1, [.ref (a 2), .ref (a 3), .ref (a 4), .ref (a 5), .ref (a 6), .ref (a 7), .ref (a 8), .int (nI n)]) := (hfr13 1 (by omega)).trans hsP1
  have h16 : w2 2 = .inl (k.2.1, 12, .inr (.inl up)) := (hfr13 2 (by omega)).trans hsP2
  have h17 : w2 3 = .inl (k.2.1, 12, .inr (.inl lo)) := (hfr13 3 (by omega)).trans hsP3
  have h18 : w2 4 = .inl (k.1, 12, .inl fa) := (hfr13 4 (by omega)).trans hsP4
  have h19 : w2 5 = .inl (k.1, 72, .inl we) := (hfr13 5 (by omega)).trans hsP5
  have h20 : w2 6 = .inl (k.1, 72, .inl ti) := (hfr13 6 (by omega)).trans hsP6
  have h21 : w2 7 = .inl (k.1, 12, .inl ri) := (hfr13 7 (by omega)).trans hsP7
  have h22 : w2 8 = .inl (k.2.2, 144, .inl jo) := (hfr13 8 (by omega)).trans hsP8
  rw [er12]
  refine lv_istore (lv' := [(6, .int 0), (5, .int 1), (0, .ref b), (1, .ref (a 0)), (2, .ref (a 22)), (3, .ref (a 21)), (4, .int (nI ii))]) hx hb dL_law_239 hl (by decide) rfl (fun ls hl => ?_)
  refine lv_aload_n hx hb dL_law_241 rfl (lv_at hl 4 rfl) ?_
  refine g_ViR (i := 22) (As := []) (rest := []) (kD_thrown hA h4) calD_thrown cvD_thrown mlL_89 hx hb hml hown hts hB hG hK hS (by decide) h4 rfl ⟨by decide, by decide⟩ rfl hl.1 rfl (Nat.le_of_ble_eq_true rfl) dL_law_242 ⟨by show cs + 1 + 0 + 0 ≤ 1087; omega, by show ss + 6 + 0 + 0 ≤ 9297; omega⟩ (fun H locs hG hS => ?_)
  refine lv_iload hx hb dL_law_245 (lv_at hl 1 rfl) ?_
  refine lv_icmp_eq (tgt := 252) hx hb dL_law_247 (by decide) (fun _ => ?_) (fun h9 => absurd h9 (by decide))
  refine lv_iload hx hb dL_law_252 (lv_at hl 1 rfl) ?_
  refine lv_if_ne (tgt := 269) hx hb dL_law_254 (by decide) (fun _ => ?_) (fun h9 => absurd h9 (by decide))
  refine lv_goto (tgt := 1235) hx hb dL_law_269 (by decide) ?_
  exact kk _ _ _ _  h14 ⟨h15, h16, h17, h18, h19, h20, h21, h22⟩ h4 ⟨h5, h6, h7, h8, h9, h10, h11⟩  hfr13 hG hS (lv_sub hl [2, 3, 4, 5, 6] rfl)

set_option maxRecDepth 100000 in
set_option maxHeartbeats 4000000 in
theorem st_cylinder_z {p : Program} {l : Launch} {e : Env} {s : State} {m : MethodId} {args : Array Value} {below : List Frame} {meth : Method} {c : Code} {Q : State → Prop} (hl9 : l.stackTraces = false) {D : va_G} {k : ClassId × ClassId × ClassId} {a : Nat → Nat} {B0 : Nat} {w : Nat → va_E} (hA : gA B0 a) (hx : p.tables.exec = Jvm.exec) (hb : c.code = cL_law) (hml : c.maxLocals = 8) (hown : s.vm.findClass RL = some m.cls) (hts : ∀ w ∈ TB, w.before args s = true) (hB : B0 ≤ s.heap.size) (hK : va_K D vwCl (gT k) s) (hXS : xS B0 s) {b Ls : Nat} {xs : Nat → Int32} (hX : va_X b Ls xs s s.heap) (hbl : b < s.heap.size) (hbA : ¬ gF B0 b) (hL9 : Ls ≤ 2048) {ii : Nat} (hi4 : ii + 4 ≤ Ls) {n : Nat} {up : Nat → Int64} {lo : Nat → Int64} {fa : Nat → Int32} {we : Nat → Int32} {ti : Nat → Int32} {ri : Nat → Int32} {jo : Nat → Int32} {th : Int32} {nr : Nat} {nf : Nat} {bw : Int32} {bd : Int32} {nt : Nat} {rd : Nat → Int32} {ma : Nat → Int32} {mb : Nat → Int32} {mc : Nat → Int32} {co : Nat → Int32} {jn : Nat → Int32} {ro : Nat → Int32} (hsX : sX k a w ) (hsP : sP k a w n up lo fa we ti ri jo) (hsD : sD k a w th n nr nf bw bd nt) (hsDP : sDP k a w rd ma mb mc co jn ro) (x : Int32) (y : Int32) (h_1 : xs (ii + 1) = x) (h_2 : xs (ii + 2) = y) (hn : n < 12) (hz : ¬ (szR x ∧ szR y)) (hnD : n < 12) (hzD : ¬ (szR x ∧ szR y)) {H : Heap} {locs : List Loc} {ls : Array Slot} (hG : gW D a w H) (hS : va_S (gF B0) s.heap H locs) (hl : lv_has ls 8 [(0, .ref b), (1, .ref (a 0)), (2, .ref (a 22)), (3, .ref (a 21)), (4, .int (nI ii))]) {cs ss : Nat} (hcs : cs + 1 ≤ 1087) (hss : ss + 6 ≤ 9297)
 (kk : ∀ (w' : Nat → va_E) (H' : Heap) (locs' : List Loc) (ls' : Array Slot) , sX k a w' → sP k a w' n up lo fa we ti ri jo → sD k a w' 2 n nr nf bw bd nt → sDP k a w' rd ma mb mc co jn ro → (∀ z, (z < 22 ∨ 29 < z) → w' z = w z) → gW D a w' H' → va_S (gF B0) s.heap H' locs' → lv_has ls' 8 [(0, .ref b), (1, .ref (a 0)), (2, .ref (a 22)), (3, .ref (a 21)), (4, .int (nI ii))] → W p l e room_1 s m args below meth c H' locs' (cs + 1) (ss + 6) Q (F0 m 1235 ls' [])) : W p l e room_1 s m args below meth c H locs cs ss Q (F0 m 204 ls []) := by
  have hsX0 := hsX
  obtain ⟨hsP1, hsP2, hsP3, hsP4, hsP5, hsP6, hsP7, hsP8⟩ := hsP
  have hsD22 := hsD
  obtain ⟨hsDP23, hsDP24, hsDP25, hsDP26, hsDP27, hsDP28, hsDP29⟩ := hsDP
  refine lv_aload_n hx hb dL_law_204 rfl (lv_at hl 1 rfl) ?_
  refine lv_aload_n hx hb dL_law_205 rfl (lv_at hl 0 rfl) ?_
  refine lv_iload hx hb dL_law_206 (lv_at hl 4 rfl) ?_
  refine lv_iconst (v := 1) hx hb dL_law_208 (by decide) ?_
  refine ln_iadd (x := ii) (y := 1) hx hb dL_law_209 ?_
  refine l_sld (v := x) hx hb hX hbl hbA hS (j := ii + 1) (by omega) (by omega) h_1 dL_law_210 ?_
  refine lv_aload_n hx hb dL_law_211 rfl (lv_at hl 0 rfl) ?_
  refine lv_iload hx hb dL_law_212 (lv_at hl 4 rfl) ?_
  refine lv_iconst (v := 2) hx hb dL_law_214 (by decide) ?_
  refine ln_iadd (x := ii) (y := 2) hx hb dL_law_215 ?_
  refine l_sld (v := y) hx hb hX hbl hbA hS (j := ii + 2) (by omega) (by omega) h_2 dL_law_216 ?_
  refine lv_aload_n hx hb dL_law_217 rfl (lv_at hl 3 rfl) ?_
  refine y_Si (As := [.ref (a 0), .int x, .int y, .ref (a 21)]) (rest := []) (kL_cylinder_z hl9 hA hsX0 ⟨hsP1, hsP2, hsP3, hsP4, hsP5, hsP6, hsP7, hsP8⟩ x y hn hz) calL_cylinder mlL_93 hx hb hml hown hts hB hG hK hS hXS ⟨by decide, by decide⟩ rfl hl.1 rfl (Nat.le_of_ble_eq_true rfl) dL_law_218 ⟨by show cs + 1 ≤ 1087; omega, by show ss + 6 ≤ 9297; omega⟩ (fun H locs hG hS => ?_)
  refine lv_istore (lv' := [(5, .int 2), (0, .ref b), (1, .ref (a 0)), (2, .ref (a 22)), (3, .ref (a 21)), (4, .int (nI ii))]) hx hb dL_law_221 hl (by decide) rfl (fun ls hl => ?_)
  refine lv_aload_n hx hb dL_law_223 rfl (lv_at hl 3 rfl) ?_
  refine lv_aload_n hx hb dL_law_224 rfl (lv_at hl 1 rfl) ?_
  refine lv_iload hx hb dL_law_225 (lv_at hl 5 rfl) ?_
  refine lv_iconst (v := 1) hx hb dL_law_227 (by decide) ?_
  refine ln_iadd (x := ii) (y := 1) hx hb dL_law_228 ?_
  refine l_sld (v := x) hx hb hX hbl hbA hS (j := ii + 1) (by omega) (by omega) h_1 dL_law_229 ?_
  refine lv_aload_n hx hb dL_law_230 rfl (lv_at hl 1 rfl) ?_
  refine lv_iload hx hb dL_law_231 (lv_at hl 5 rfl) ?_
  refine lv_iconst (v := 2) hx hb dL_law_233 (by decide) ?_
  refine ln_iadd (x := ii) (y := 2) hx hb dL_law_234 ?_
  refine l_sld (v := y) hx hb hX hbl hbA hS (j := ii + 2) (by omega) (by omega) h_2 dL_law_235 ?_
  refine g_Vi (i := 22) (As := [.int x, .int y]) (rest := []) (kD_cylinder_z hA hsD22 ⟨hsDP23, hsDP24, hsDP25, hsDP26, hsDP27, hsDP28, hsDP29⟩ x y hnD hzD) calD_cylinder cvD_cylinder mlL_96 hx hb hml hown hts hB hG hK hS (by decide) hsD22 rfl ⟨by decide, by decide⟩ rfl hl.1 rfl (Nat.le_of_ble_eq_true rfl) dL_law_236 ⟨by show cs + 1 + 0 ≤ 1087; omega, by show ss + 6 + 0 ≤ 9297; omega⟩ (fun r1 w2 H locs hp3 hG hS => ?_)
  obtain ⟨er12, h4, ⟨h5, h6, h7, h8, h9, h10, h11⟩, hfr13⟩ := hp3
  have h14 : w2 0 = .inr (0, [.ref (a 1), .ref (a 9), .ref (a 12), .ref (a 15)]) := (hfr13 0 (by omega)).trans hsX0
  have h15 : w2 1 = .inr (1, [.ref (a 2), .ref (a 3), .ref (a 4), .ref (a 5), .ref (a 6), .ref (a 7), .ref (a 8), .int (nI n)]) := (hfr13 1 (by omega)).trans hsP1
  have h16 : w2 2 = .inl (k.2.1, 12, .inr (.inl up)) := (hfr13 2 (by omega)).trans hsP2
  have h17 : w2 3 = .inl (k.2.1, 12, .inr (.inl lo)) := (hfr13 3 (by omega)).trans hsP3
  have h18 : w2 4 = .inl (k.1, 12, .inl fa) := (hfr13 4 (by omega)).trans hsP4
  have h19 : w2 5 = .inl (k.1, 72, .inl we) := (hfr13 5 (by omega)).trans hsP5
  have h20 : w2 6 = .inl (k.1, 72, .inl ti) := (hfr13 6 (by omega)).trans hsP6
  have h21 : w2 7 = .inl (k.1, 12, .inl ri) := (hfr13 7 (by omega)).trans hsP7
  have h22 : w2 8 = .inl (k.2.2, 144, .inl jo) := (hfr13 8 (by omega)).trans hsP8
  rw [er12]
  refine lv_istore (lv' := [(6, .int 0), (5, .int 2), (0, .ref b), (1, .ref (a 0)), (2, .ref (a 22)), (3, .ref (a 21)), (4, .int (nI ii))]) hx hb dL_law_239 hl (by decide) rfl (fun ls hl => ?_)
  refine lv_aload_n hx hb dL_law_241 rfl (lv_at hl 4 rfl) ?_
  refine g_ViR (i := 22) (As := []) (rest := []) (kD_thrown hA h4) calD_thrown cvD_thrown mlL_89 hx hb hml hown hts hB hG hK hS (by decide) h4 rfl ⟨by decide, by decide⟩ rfl hl.1 rfl (Nat.le_of_ble_eq_true rfl) dL_law_242 ⟨by show cs + 1 + 0 + 0 ≤ 1087; omega, by show ss + 6 + 0 + 0 ≤ 9297; omega⟩ (fun H locs hG hS => ?_)
  refine lv_iload hx hb dL_law_245 (lv_at hl 1 rfl) ?_
  refine lv_icmp_eq (tgt := 252) hx hb dL_law_247 (by decide) (fun _ => ?_) (fun h9 => absurd h9 (by decide))
  refine lv_iload hx hb dL_law_252 (lv_at hl 1 rfl) ?_
  refine lv_if_ne (tgt := 269) hx hb dL_law_254 (by decide) (fun _ => ?_) (fun h9 => absurd h9 (by decide))
  refine lv_goto (tgt := 1235) hx hb dL_law_269 (by decide) ?_
  exact kk _ _ _ _  h14 ⟨h15, h16, h17, h18, h19, h20, h21, h22⟩ h4 ⟨h5, h6, h7, h8, h9, h10, h11⟩  hfr13 hG hS (lv_sub hl [2, 3, 4, 5, 6] rfl)

set_option maxRecDepth 100000 in
set_option maxHeartbeats 4000000 in
theorem st_face_k {p : Program} {l : Launch} {e : Env} {s : State} {m : MethodId} {args : Array Value} {below : List Frame} {meth : Method} {c : Code} {Q : State → Prop} (hl9 : l.stackTraces = false) {D : va_G} {k : ClassId × ClassId × ClassId} {a : Nat → Nat} {B0 : Nat} {w : Nat → va_E} (hA : gA B0 a) (hx : p.tables.exec = Jvm.exec) (hb : c.code = cL_law) (hml : c.maxLocals = 8) (hown : s.vm.findClass RL = some m.cls) (hts : ∀ w ∈ TB, w.before args s = true) (hB : B0 ≤ s.heap.size) (hK : va_K D vwCl (gT k) s) (hXS : xS B0 s) {b Ls : Nat} {xs : Nat → Int32} (hX : va_X b Ls xs s s.heap) (hbl : b < s.heap.size) (hbA : ¬ gF B0 b) (hL9 : Ls ≤ 2048) {ii : Nat} (hi4 : ii + 4 ≤ Ls) {n : Nat} {up : Nat → Int64} {lo : Nat → Int64} {fa : Nat → Int32} {we : Nat → Int32} {ti : Nat → Int32} {ri : Nat → Int32} {jo : Nat → Int32} {th : Int32} {nr : Nat} {nf : Nat} {bw : Int32} {bd : Int32} {nt : Nat} {rd : Nat → Int32} {ma : Nat → Int32} {mb : Nat → Int32} {mc : Nat → Int32} {co : Nat → Int32} {jn : Nat → Int32} {ro : Nat → Int32} (hsX : sX k a w ) (hsP : sP k a w n up lo fa we ti ri jo) (hsD : sD k a w th n nr nf bw bd nt) (hsDP : sDP k a w rd ma mb mc co jn ro) (j : Nat) (g : Nat) (h : Int32) (h_1 : xs (ii + 1) = nI j) (h_2 : xs (ii + 2) = nI g) (h_3 : xs (ii + 3) = h) (hj : j < n) (hn : n ≤ 12) (hg : g < 6) (hfa : ¬ fa j ≤ nI g) (hh : rngI h 0 2) (hjD : j < n) (hnD : n ≤ 12) (hgD : g < 6) (hf5D : rd j = 0 → rngI (nI g) 0 5) (hf2D : ¬ rd j = 0 → rngI (nI g) 0 2) (hhD : rngI h 0 2) {H : Heap} {locs : List Loc} {ls : Array Slot} (hG : gW D a w H) (hS : va_S (gF B0) s.heap H locs) (hl : lv_has ls 8 [(0, .ref b), (1, .ref (a 0)), (2, .ref (a 22)), (3, .ref (a 21)), (4, .int (nI ii))]) {cs ss : Nat} (hcs : cs + 1 ≤ 1087) (hss : ss + 6 ≤ 9297)
 (kk : ∀ (w' : Nat → va_E) (H' : Heap) (locs' : List Loc) (ls' : Array Slot) , sX k a w' → sP k a w' n up (vp_updL lo j (lo j + (we (j * 6 + g)).toInt64 * (h - ti (j * 6 + g)).toInt64)) fa we (upd ti (j * 6 + g) h) ri jo → sD k a w' 0 n nr nf bw bd nt → sDP k a w' rd ma mb mc (upd co (6 * j + g) h) jn ro → (∀ z, (z < 1 ∨ 8 < z) ∧ (z < 22 ∨ 29 < z) → w' z = w z) → gW D a w' H' → va_S (gF B0) s.heap H' locs' → lv_has ls' 8 [(0, .ref b), (1, .ref (a 0)), (2, .ref (a 22)), (3, .ref (a 21)), (4, .int (nI ii))] → W p l e room_1 s m args below meth c H' locs' (cs + 0) (ss + 0) Q (F0 m 1235 ls' [])) : W p l e room_1 s m args below meth c H locs cs ss Q (F0 m 272 ls []) := by
  have hsX0 := hsX
  obtain ⟨hsP1, hsP2, hsP3, hsP4, hsP5, hsP6, hsP7, hsP8⟩ := hsP
  have hsD22 := hsD
  obtain ⟨hsDP23, hsDP24, hsDP25, hsDP26, hsDP27, hsDP28, hsDP29⟩ := hsDP
  refine lv_aload_n hx hb dL_law_272 rfl (lv_at hl 1 rfl) ?_
  refine lv_aload_n hx hb dL_law_273 rfl (lv_at hl 0 rfl) ?_
  refine lv_iload hx hb dL_law_274 (lv_at hl 4 rfl) ?_
  refine lv_iconst (v := 1) hx hb dL_law_276 (by decide) ?_
  refine ln_iadd (x := ii) (y := 1) hx hb dL_law_277 ?_
  refine l_sld (v := nI j) hx hb hX hbl hbA hS (j := ii + 1) (by omega) (by omega) h_1 dL_law_278 ?_
  refine lv_aload_n hx hb dL_law_279 rfl (lv_at hl 0 rfl) ?_
  refine lv_iload hx hb dL_law_280 (lv_at hl 4 rfl) ?_
  refine lv_iconst (v := 2) hx hb dL_law_282 (by decide) ?_
  refine ln_iadd (x := ii) (y := 2) hx hb dL_law_283 ?_
  refine l_sld (v := nI g) hx hb hX hbl hbA hS (j := ii + 2) (by omega) (by omega) h_2 dL_law_284 ?_
  refine lv_aload_n hx hb dL_law_285 rfl (lv_at hl 0 rfl) ?_
  refine lv_iload hx hb dL_law_286 (lv_at hl 4 rfl) ?_
  refine lv_iconst (v := 3) hx hb dL_law_288 (by decide) ?_
  refine ln_iadd (x := ii) (y := 3) hx hb dL_law_289 ?_
  refine l_sld (v := h) hx hb hX hbl hbA hS (j := ii + 3) (by omega) (by omega) h_3 dL_law_290 ?_
  refine h_Si (As := [.ref (a 0), .int (nI j), .int (nI g), .int h]) (rest := []) (kL_face_k hA hsX0 ⟨hsP1, hsP2, hsP3, hsP4, hsP5, hsP6, hsP7, hsP8⟩ j g h hj hn hg hfa hh) calL_face mlL_97 hx hb hml hown hts hB hG hK hS ⟨by decide, by decide⟩ rfl hl.1 rfl (Nat.le_of_ble_eq_true rfl) dL_law_291 ⟨by show cs + 0 ≤ 1087; omega, by show ss + 0 ≤ 9297; omega⟩ (fun r1 w2 H locs hp3 hG hS => ?_)
  obtain ⟨er12, ⟨h4, h5, h6, h7, h8, h9, h10, h11⟩, hfr13⟩ := hp3
  have h14 : w2 0 = .inr (0, [.ref (a 1), .ref (a 9), .ref (a 12), .ref (a 15)]) := (hfr13 0 (by omega)).trans hsX0
  have h15 : w2 22 = .inr (5, [.int th, .int (nI n), .ref (a 23), .ref (a 24), .ref (a 25), .ref (a 26), .ref (a 27), .ref (a 28), .ref (a 29), .int (nI nr), .ref (a 30), .ref (a 31), .int (nI nf), .ref (a 32), .ref (a 33), .int bw, .int bd, .int (nI nt), .ref (a 34), .ref (a 35), .ref (a 36), .ref (a 37)]) := (hfr13 22 (by omega)).trans hsD22
  have h16 : w2 23 = .inl (k.2.2, 12, .inl rd) := (hfr13 23 (by omega)).trans hsDP23
  have h17 : w2 24 = .inl (k.1, 12, .inl ma) := (hfr13 24 (by omega)).trans hsDP24
  have h18 : w2 25 = .inl (k.1, 12, .inl mb) := (hfr13 25 (by omega)).trans hsDP25
  have h19 : w2 26 = .inl (k.1, 12, .inl mc) := (hfr13 26 (by omega)).trans hsDP26
  have h20 : w2 27 = .inl (k.1, 72, .inl co) := (hfr13 27 (by omega)).trans hsDP27
  have h21 : w2 28 = .inl (k.1, 12, .inl jn) := (hfr13 28 (by omega)).trans hsDP28
  have h22 : w2 29 = .inl (k.1, 12, .inl ro) := (hfr13 29 (by omega)).trans hsDP29
  rw [er12]
  refine lv_istore (lv' := [(5, .int 0), (0, .ref b), (1, .ref (a 0)), (2, .ref (a 22)), (3, .ref (a 21)), (4, .int (nI ii))]) hx hb dL_law_294 hl (by decide) rfl (fun ls hl => ?_)
  refine lv_aload_n hx hb dL_law_296 rfl (lv_at hl 3 rfl) ?_
  refine lv_aload_n hx hb dL_law_297 rfl (lv_at hl 1 rfl) ?_
  refine lv_iload hx hb dL_law_298 (lv_at hl 5 rfl) ?_
  refine lv_iconst (v := 1) hx hb dL_law_300 (by decide) ?_
  refine ln_iadd (x := ii) (y := 1) hx hb dL_law_301 ?_
  refine l_sld (v := nI j) hx hb hX hbl hbA hS (j := ii + 1) (by omega) (by omega) h_1 dL_law_302 ?_
  refine lv_aload_n hx hb dL_law_303 rfl (lv_at hl 1 rfl) ?_
  refine lv_iload hx hb dL_law_304 (lv_at hl 5 rfl) ?_
  refine lv_iconst (v := 2) hx hb dL_law_306 (by decide) ?_
  refine ln_iadd (x := ii) (y := 2) hx hb dL_law_307 ?_
  refine l_sld (v := nI g) hx hb hX hbl hbA hS (j := ii + 2) (by omega) (by omega) h_2 dL_law_308 ?_
  refine lv_aload_n hx hb dL_law_309 rfl (lv_at hl 1 rfl) ?_
  refine lv_iload hx hb dL_law_310 (lv_at hl 5 rfl) ?_
  refine lv_iconst (v := 3) hx hb dL_law_312 (by decide) ?_
  refine ln_iadd (x := ii) (y := 3) hx hb dL_law_313 ?_
  refine l_sld (v := h) hx hb hX hbl hbA hS (j := ii + 3) (by omega) (by omega) h_3 dL_law_314 ?_
  refine g_Vv (i := 22) (As := [.int (nI j), .int (nI g), .int h]) (rest := []) (kD_face_k hA h15 ⟨h16, h17, h18, h19, h20, h21, h22⟩ j g h hjD hnD hgD hf5D hf2D hhD) calD_face cvD_face mlL_100 hx hb hml hown hts hB hG hK hS (by decide) h15 rfl ⟨by decide, by decide⟩ rfl hl.1 rfl (Nat.le_of_ble_eq_true rfl) dL_law_315 ⟨by show cs + 0 + 0 ≤ 1087; omega, by show ss + 0 + 0 ≤ 9297; omega⟩ (fun w24 H locs hp25 hG hS => ?_)
  obtain ⟨h26, ⟨h27, h28, h29, h30, h31, h32, h33⟩, hfr35⟩ := hp25
  have h36 : w24 0 = .inr (0, [.ref (a 1), .ref (a 9), .ref (a 12), .ref (a 15)]) := (hfr35 0 (by omega)).trans h14
  have h37 : w24 1 = .inr (1, [.ref (a 2), .ref (a 3), .ref (a 4), .ref (a 5), .ref (a 6), .ref (a 7), .ref (a 8), .int (nI n)]) := (hfr35 1 (by omega)).trans h4
  have h38 : w24 2 = .inl (k.2.1, 12, .inr (.inl up)) := (hfr35 2 (by omega)).trans h5
  have h39 : w24 3 = .inl (k.2.1, 12, .inr (.inl (vp_updL lo j (lo j + (we (j * 6 + g)).toInt64 * (h - ti (j * 6 + g)).toInt64)))) := (hfr35 3 (by omega)).trans h6
  have h40 : w24 4 = .inl (k.1, 12, .inl fa) := (hfr35 4 (by omega)).trans h7
  have h41 : w24 5 = .inl (k.1, 72, .inl we) := (hfr35 5 (by omega)).trans h8
  have h42 : w24 6 = .inl (k.1, 72, .inl (upd ti (j * 6 + g) h)) := (hfr35 6 (by omega)).trans h9
  have h43 : w24 7 = .inl (k.1, 12, .inl ri) := (hfr35 7 (by omega)).trans h10
  have h44 : w24 8 = .inl (k.2.2, 144, .inl jo) := (hfr35 8 (by omega)).trans h11
  refine lv_aload_n hx hb dL_law_318 rfl (lv_at hl 3 rfl) ?_
  refine g_ViR (i := 22) (As := []) (rest := []) (kD_thrown hA h26) calD_thrown cvD_thrown mlL_89 hx hb hml hown hts hB hG hK hS (by decide) h26 rfl ⟨by decide, by decide⟩ rfl hl.1 rfl (Nat.le_of_ble_eq_true rfl) dL_law_319 ⟨by show cs + 0 + 0 + 0 ≤ 1087; omega, by show ss + 0 + 0 + 0 ≤ 9297; omega⟩ (fun H locs hG hS => ?_)
  refine lv_iload hx hb dL_law_322 (lv_at hl 0 rfl) ?_
  refine lv_icmp_eq (tgt := 329) hx hb dL_law_324 (by decide) (fun _ => ?_) (fun h9 => absurd h9 (by decide))
  refine lv_goto (tgt := 1235) hx hb dL_law_329 (by decide) ?_
  exact kk _ _ _ _  h36 ⟨h37, h38, h39, h40, h41, h42, h43, h44⟩ h26 ⟨h27, h28, h29, h30, h31, h32, h33⟩  (fun z hz => (hfr35 z hz.2).trans (hfr13 z hz.1)) hG hS (lv_sub hl [1, 2, 3, 4, 5] rfl)

set_option maxRecDepth 100000 in
set_option maxHeartbeats 4000000 in
theorem st_face_p {p : Program} {l : Launch} {e : Env} {s : State} {m : MethodId} {args : Array Value} {below : List Frame} {meth : Method} {c : Code} {Q : State → Prop} (hl9 : l.stackTraces = false) {D : va_G} {k : ClassId × ClassId × ClassId} {a : Nat → Nat} {B0 : Nat} {w : Nat → va_E} (hA : gA B0 a) (hx : p.tables.exec = Jvm.exec) (hb : c.code = cL_law) (hml : c.maxLocals = 8) (hown : s.vm.findClass RL = some m.cls) (hts : ∀ w ∈ TB, w.before args s = true) (hB : B0 ≤ s.heap.size) (hK : va_K D vwCl (gT k) s) (hXS : xS B0 s) {b Ls : Nat} {xs : Nat → Int32} (hX : va_X b Ls xs s s.heap) (hbl : b < s.heap.size) (hbA : ¬ gF B0 b) (hL9 : Ls ≤ 2048) {ii : Nat} (hi4 : ii + 4 ≤ Ls) {n : Nat} {up : Nat → Int64} {lo : Nat → Int64} {fa : Nat → Int32} {we : Nat → Int32} {ti : Nat → Int32} {ri : Nat → Int32} {jo : Nat → Int32} {th : Int32} {nr : Nat} {nf : Nat} {bw : Int32} {bd : Int32} {nt : Nat} {rd : Nat → Int32} {ma : Nat → Int32} {mb : Nat → Int32} {mc : Nat → Int32} {co : Nat → Int32} {jn : Nat → Int32} {ro : Nat → Int32} (hsX : sX k a w ) (hsP : sP k a w n up lo fa we ti ri jo) (hsD : sD k a w th n nr nf bw bd nt) (hsDP : sDP k a w rd ma mb mc co jn ro) (q : Int32) (f : Int32) (h : Int32) (h_1 : xs (ii + 1) = q) (h_2 : xs (ii + 2) = f) (h_3 : xs (ii + 3) = h) (hq : ¬ (¬ q < 0 ∧ ¬ nI n ≤ q)) (hqD : ¬ rngI q 0 (nI n - 1)) {H : Heap} {locs : List Loc} {ls : Array Slot} (hG : gW D a w H) (hS : va_S (gF B0) s.heap H locs) (hl : lv_has ls 8 [(0, .ref b), (1, .ref (a 0)), (2, .ref (a 22)), (3, .ref (a 21)), (4, .int (nI ii))]) {cs ss : Nat} (hcs : cs + 1 ≤ 1087) (hss : ss + 6 ≤ 9297)
 (kk : ∀ (w' : Nat → va_E) (H' : Heap) (locs' : List Loc) (ls' : Array Slot) , sX k a w' → sP k a w' n up lo fa we ti ri jo → sD k a w' 1 n nr nf bw bd nt → sDP k a w' rd ma mb mc co jn ro → (∀ z, (z < 22 ∨ 29 < z) → w' z = w z) → gW D a w' H' → va_S (gF B0) s.heap H' locs' → lv_has ls' 8 [(0, .ref b), (1, .ref (a 0)), (2, .ref (a 22)), (3, .ref (a 21)), (4, .int (nI ii))] → W p l e room_1 s m args below meth c H' locs' (cs + 1) (ss + 6) Q (F0 m 1235 ls' [])) : W p l e room_1 s m args below meth c H locs cs ss Q (F0 m 272 ls []) := by
  have hsX0 := hsX
  obtain ⟨hsP1, hsP2, hsP3, hsP4, hsP5, hsP6, hsP7, hsP8⟩ := hsP
  have hsD22 := hsD
  obtain ⟨hsDP23, hsDP24, hsDP25, hsDP26, hsDP27, hsDP28, hsDP29⟩ := hsDP
  refine lv_aload_n hx hb dL_law_272 rfl (lv_at hl 1 rfl) ?_
  refine lv_aload_n hx hb dL_law_273 rfl (lv_at hl 0 rfl) ?_
  refine lv_iload hx hb dL_law_274 (lv_at hl 4 rfl) ?_
  refine lv_iconst (v := 1) hx hb dL_law_276 (by decide) ?_
  refine ln_iadd (x := ii) (y := 1) hx hb dL_law_277 ?_
  refine l_sld (v := q) hx hb hX hbl hbA hS (j := ii + 1) (by omega) (by omega) h_1 dL_law_278 ?_
  refine lv_aload_n hx hb dL_law_279 rfl (lv_at hl 0 rfl) ?_
  refine lv_iload hx hb dL_law_280 (lv_at hl 4 rfl) ?_
  refine lv_iconst (v := 2) hx hb dL_law_282 (by decide) ?_
  refine ln_iadd (x := ii) (y := 2) hx hb dL_law_283 ?_
  refine l_sld (v := f) hx hb hX hbl hbA hS (j := ii + 2) (by omega) (by omega) h_2 dL_law_284 ?_
  refine lv_aload_n hx hb dL_law_285 rfl (lv_at hl 0 rfl) ?_
  refine lv_iload hx hb dL_law_286 (lv_at hl 4 rfl) ?_
  refine lv_iconst (v := 3) hx hb dL_law_288 (by decide) ?_
  refine ln_iadd (x := ii) (y := 3) hx hb dL_law_289 ?_
  refine l_sld (v := h) hx hb hX hbl hbA hS (j := ii + 3) (by omega) (by omega) h_3 dL_law_290 ?_
  refine y_Si (As := [.ref (a 0), .int q, .int f, .int h]) (rest := []) (kL_face_p hl9 hA hsX0 ⟨hsP1, hsP2, hsP3, hsP4, hsP5, hsP6, hsP7, hsP8⟩ q f h hq) calL_face mlL_97 hx hb hml hown hts hB hG hK hS hXS ⟨by decide, by decide⟩ rfl hl.1 rfl (Nat.le_of_ble_eq_true rfl) dL_law_291 ⟨by show cs + 1 ≤ 1087; omega, by show ss + 6 ≤ 9297; omega⟩ (fun H locs hG hS => ?_)
  refine lv_istore (lv' := [(5, .int 1), (0, .ref b), (1, .ref (a 0)), (2, .ref (a 22)), (3, .ref (a 21)), (4, .int (nI ii))]) hx hb dL_law_294 hl (by decide) rfl (fun ls hl => ?_)
  refine lv_aload_n hx hb dL_law_296 rfl (lv_at hl 3 rfl) ?_
  refine lv_aload_n hx hb dL_law_297 rfl (lv_at hl 1 rfl) ?_
  refine lv_iload hx hb dL_law_298 (lv_at hl 5 rfl) ?_
  refine lv_iconst (v := 1) hx hb dL_law_300 (by decide) ?_
  refine ln_iadd (x := ii) (y := 1) hx hb dL_law_301 ?_
  refine l_sld (v := q) hx hb hX hbl hbA hS (j := ii + 1) (by omega) (by omega) h_1 dL_law_302 ?_
  refine lv_aload_n hx hb dL_law_303 rfl (lv_at hl 1 rfl) ?_
  refine lv_iload hx hb dL_law_304 (lv_at hl 5 rfl) ?_
  refine lv_iconst (v := 2) hx hb dL_law_306 (by decide) ?_
  refine ln_iadd (x := ii) (y := 2) hx hb dL_law_307 ?_
  refine l_sld (v := f) hx hb hX hbl hbA hS (j := ii + 2) (by omega) (by omega) h_2 dL_law_308 ?_
  refine lv_aload_n hx hb dL_law_309 rfl (lv_at hl 1 rfl) ?_
  refine lv_iload hx hb dL_law_310 (lv_at hl 5 rfl) ?_
  refine lv_iconst (v := 3) hx hb dL_law_312 (by decide) ?_
  refine ln_iadd (x := ii) (y := 3) hx hb dL_law_313 ?_
  refine l_sld (v := h) hx hb hX hbl hbA hS (j := ii + 3) (by omega) (by omega) h_3 dL_law_314 ?_
  refine g_Vv (i := 22) (As := [.int q, .int f, .int h]) (rest := []) (kD_face_p hA hsD22 ⟨hsDP23, hsDP24, hsDP25, hsDP26, hsDP27, hsDP28, hsDP29⟩ q f h hqD) calD_face cvD_face mlL_100 hx hb hml hown hts hB hG hK hS (by decide) hsD22 rfl ⟨by decide, by decide⟩ rfl hl.1 rfl (Nat.le_of_ble_eq_true rfl) dL_law_315 ⟨by show cs + 1 + 0 ≤ 1087; omega, by show ss + 6 + 0 ≤ 9297; omega⟩ (fun w2 H locs hp3 hG hS => ?_)
  obtain ⟨h4, ⟨h5, h6, h7, h8, h9, h10, h11⟩, hfr13⟩ := hp3
  have h14 : w2 0 = .inr (0, [.ref (a 1), .ref (a 9), .ref (a 12), .ref (a 15)]) := (hfr13 0 (by omega)).trans hsX0
  have h15 : w2 1 = .inr (1, [.ref (a 2), .ref (a 3), .ref (a 4), .ref (a 5), .ref (a 6), .ref (a 7), .ref (a 8), .int (nI n)]) := (hfr13 1 (by omega)).trans hsP1
  have h16 : w2 2 = .inl (k.2.1, 12, .inr (.inl up)) := (hfr13 2 (by omega)).trans hsP2
  have h17 : w2 3 = .inl (k.2.1, 12, .inr (.inl lo)) := (hfr13 3 (by omega)).trans hsP3
  have h18 : w2 4 = .inl (k.1, 12, .inl fa) := (hfr13 4 (by omega)).trans hsP4
  have h19 : w2 5 = .inl (k.1, 72, .inl we) := (hfr13 5 (by omega)).trans hsP5
  have h20 : w2 6 = .inl (k.1, 72, .inl ti) := (hfr13 6 (by omega)).trans hsP6
  have h21 : w2 7 = .inl (k.1, 12, .inl ri) := (hfr13 7 (by omega)).trans hsP7
  have h22 : w2 8 = .inl (k.2.2, 144, .inl jo) := (hfr13 8 (by omega)).trans hsP8
  refine lv_aload_n hx hb dL_law_318 rfl (lv_at hl 3 rfl) ?_
  refine g_ViR (i := 22) (As := []) (rest := []) (kD_thrown hA h4) calD_thrown cvD_thrown mlL_89 hx hb hml hown hts hB hG hK hS (by decide) h4 rfl ⟨by decide, by decide⟩ rfl hl.1 rfl (Nat.le_of_ble_eq_true rfl) dL_law_319 ⟨by show cs + 1 + 0 + 0 ≤ 1087; omega, by show ss + 6 + 0 + 0 ≤ 9297; omega⟩ (fun H locs hG hS => ?_)
  refine lv_iload hx hb dL_law_322 (lv_at hl 0 rfl) ?_
  refine lv_icmp_eq (tgt := 329) hx hb dL_law_324 (by decide) (fun _ => ?_) (fun h9 => absurd h9 (by decide))
  refine lv_goto (tgt := 1235) hx hb dL_law_329 (by decide) ?_
  exact kk _ _ _ _  h14 ⟨h15, h16, h17, h18, h19, h20, h21, h22⟩ h4 ⟨h5, h6, h7, h8, h9, h10, h11⟩  hfr13 hG hS (lv_sub hl [1, 2, 3, 4, 5] rfl)

set_option maxRecDepth 100000 in
set_option maxHeartbeats 4000000 in
theorem st_face_f {p : Program} {l : Launch} {e : Env} {s : State} {m : MethodId} {args : Array Value} {below : List Frame} {meth : Method} {c : Code} {Q : State → Prop} (hl9 : l.stackTraces = false) {D : va_G} {k : ClassId × ClassId × ClassId} {a : Nat → Nat} {B0 : Nat} {w : Nat → va_E} (hA : gA B0 a) (hx : p.tables.exec = Jvm.exec) (hb : c.code = cL_law) (hml : c.maxLocals = 8) (hown : s.vm.findClass RL = some m.cls) (hts : ∀ w ∈ TB, w.before args s = true) (hB : B0 ≤ s.heap.size) (hK : va_K D vwCl (gT k) s) (hXS : xS B0 s) {b Ls : Nat} {xs : Nat → Int32} (hX : va_X b Ls xs s s.heap) (hbl : b < s.heap.size) (hbA : ¬ gF B0 b) (hL9 : Ls ≤ 2048) {ii : Nat} (hi4 : ii + 4 ≤ Ls) {n : Nat} {up : Nat → Int64} {lo : Nat → Int64} {fa : Nat → Int32} {we : Nat → Int32} {ti : Nat → Int32} {ri : Nat → Int32} {jo : Nat → Int32} {th : Int32} {nr : Nat} {nf : Nat} {bw : Int32} {bd : Int32} {nt : Nat} {rd : Nat → Int32} {ma : Nat → Int32} {mb : Nat → Int32} {mc : Nat → Int32} {co : Nat → Int32} {jn : Nat → Int32} {ro : Nat → Int32} (hsX : sX k a w ) (hsP : sP k a w n up lo fa we ti ri jo) (hsD : sD k a w th n nr nf bw bd nt) (hsDP : sDP k a w rd ma mb mc co jn ro) (j : Nat) (f : Int32) (h : Int32) (h_1 : xs (ii + 1) = nI j) (h_2 : xs (ii + 2) = f) (h_3 : xs (ii + 3) = h) (hj : j < n) (hn : n ≤ 12) (hf : ¬ (¬ f < 0 ∧ ¬ fa j ≤ f)) (hjD : j < n) (hnD : n ≤ 12) (hf5D : rd j = 0 → ¬ rngI f 0 5) (hf2D : ¬ rd j = 0 → ¬ rngI f 0 2) {H : Heap} {locs : List Loc} {ls : Array Slot} (hG : gW D a w H) (hS : va_S (gF B0) s.heap H locs) (hl : lv_has ls 8 [(0, .ref b), (1, .ref (a 0)), (2, .ref (a 22)), (3, .ref (a 21)), (4, .int (nI ii))]) {cs ss : Nat} (hcs : cs + 1 ≤ 1087) (hss : ss + 6 ≤ 9297)
 (kk : ∀ (w' : Nat → va_E) (H' : Heap) (locs' : List Loc) (ls' : Array Slot) , sX k a w' → sP k a w' n up lo fa we ti ri jo → sD k a w' 1 n nr nf bw bd nt → sDP k a w' rd ma mb mc co jn ro → (∀ z, (z < 22 ∨ 29 < z) → w' z = w z) → gW D a w' H' → va_S (gF B0) s.heap H' locs' → lv_has ls' 8 [(0, .ref b), (1, .ref (a 0)), (2, .ref (a 22)), (3, .ref (a 21)), (4, .int (nI ii))] → W p l e room_1 s m args below meth c H' locs' (cs + 1) (ss + 6) Q (F0 m 1235 ls' [])) : W p l e room_1 s m args below meth c H locs cs ss Q (F0 m 272 ls []) := by
  have hsX0 := hsX
  obtain ⟨hsP1, hsP2, hsP3, hsP4, hsP5, hsP6, hsP7, hsP8⟩ := hsP
  have hsD22 := hsD
  obtain ⟨hsDP23, hsDP24, hsDP25, hsDP26, hsDP27, hsDP28, hsDP29⟩ := hsDP
  refine lv_aload_n hx hb dL_law_272 rfl (lv_at hl 1 rfl) ?_
  refine lv_aload_n hx hb dL_law_273 rfl (lv_at hl 0 rfl) ?_
  refine lv_iload hx hb dL_law_274 (lv_at hl 4 rfl) ?_
  refine lv_iconst (v := 1) hx hb dL_law_276 (by decide) ?_
  refine ln_iadd (x := ii) (y := 1) hx hb dL_law_277 ?_
  refine l_sld (v := nI j) hx hb hX hbl hbA hS (j := ii + 1) (by omega) (by omega) h_1 dL_law_278 ?_
  refine lv_aload_n hx hb dL_law_279 rfl (lv_at hl 0 rfl) ?_
  refine lv_iload hx hb dL_law_280 (lv_at hl 4 rfl) ?_
  refine lv_iconst (v := 2) hx hb dL_law_282 (by decide) ?_
  refine ln_iadd (x := ii) (y := 2) hx hb dL_law_283 ?_
  refine l_sld (v := f) hx hb hX hbl hbA hS (j := ii + 2) (by omega) (by omega) h_2 dL_law_284 ?_
  refine lv_aload_n hx hb dL_law_285 rfl (lv_at hl 0 rfl) ?_
  refine lv_iload hx hb dL_law_286 (lv_at hl 4 rfl) ?_
  refine lv_iconst (v := 3) hx hb dL_law_288 (by decide) ?_
  refine ln_iadd (x := ii) (y := 3) hx hb dL_law_289 ?_
  refine l_sld (v := h) hx hb hX hbl hbA hS (j := ii + 3) (by omega) (by omega) h_3 dL_law_290 ?_
  refine y_Si (As := [.ref (a 0), .int (nI j), .int f, .int h]) (rest := []) (kL_face_f hl9 hA hsX0 ⟨hsP1, hsP2, hsP3, hsP4, hsP5, hsP6, hsP7, hsP8⟩ j f h hj hn hf) calL_face mlL_97 hx hb hml hown hts hB hG hK hS hXS ⟨by decide, by decide⟩ rfl hl.1 rfl (Nat.le_of_ble_eq_true rfl) dL_law_291 ⟨by show cs + 1 ≤ 1087; omega, by show ss + 6 ≤ 9297; omega⟩ (fun H locs hG hS => ?_)
  refine lv_istore (lv' := [(5, .int 1), (0, .ref b), (1, .ref (a 0)), (2, .ref (a 22)), (3, .ref (a 21)), (4, .int (nI ii))]) hx hb dL_law_294 hl (by decide) rfl (fun ls hl => ?_)
  refine lv_aload_n hx hb dL_law_296 rfl (lv_at hl 3 rfl) ?_
  refine lv_aload_n hx hb dL_law_297 rfl (lv_at hl 1 rfl) ?_
  refine lv_iload hx hb dL_law_298 (lv_at hl 5 rfl) ?_
  refine lv_iconst (v := 1) hx hb dL_law_300 (by decide) ?_
  refine ln_iadd (x := ii) (y := 1) hx hb dL_law_301 ?_
  refine l_sld (v := nI j) hx hb hX hbl hbA hS (j := ii + 1) (by omega) (by omega) h_1 dL_law_302 ?_
  refine lv_aload_n hx hb dL_law_303 rfl (lv_at hl 1 rfl) ?_
  refine lv_iload hx hb dL_law_304 (lv_at hl 5 rfl) ?_
  refine lv_iconst (v := 2) hx hb dL_law_306 (by decide) ?_
  refine ln_iadd (x := ii) (y := 2) hx hb dL_law_307 ?_
  refine l_sld (v := f) hx hb hX hbl hbA hS (j := ii + 2) (by omega) (by omega) h_2 dL_law_308 ?_
  refine lv_aload_n hx hb dL_law_309 rfl (lv_at hl 1 rfl) ?_
  refine lv_iload hx hb dL_law_310 (lv_at hl 5 rfl) ?_
  refine lv_iconst (v := 3) hx hb dL_law_312 (by decide) ?_
  refine ln_iadd (x := ii) (y := 3) hx hb dL_law_313 ?_
  refine l_sld (v := h) hx hb hX hbl hbA hS (j := ii + 3) (by omega) (by omega) h_3 dL_law_314 ?_
  refine g_Vv (i := 22) (As := [.int (nI j), .int f, .int h]) (rest := []) (kD_face_f hA hsD22 ⟨hsDP23, hsDP24, hsDP25, hsDP26, hsDP27, hsDP28, hsDP29⟩ j f h hjD hnD hf5D hf2D) calD_face cvD_face mlL_100 hx hb hml hown hts hB hG hK hS (by decide) hsD22 rfl ⟨by decide, by decide⟩ rfl hl.1 rfl (Nat.le_of_ble_eq_true rfl) dL_law_315 ⟨by show cs + 1 + 0 ≤ 1087; omega, by show ss + 6 + 0 ≤ 9297; omega⟩ (fun w2 H locs hp3 hG hS => ?_)
  obtain ⟨h4, ⟨h5, h6, h7, h8, h9, h10, h11⟩, hfr13⟩ := hp3
  have h14 : w2 0 = .inr (0, [.ref (a 1), .ref (a 9), .ref (a 12), .ref (a 15)]) := (hfr13 0 (by omega)).trans hsX0
  have h15 : w2 1 = .inr (1, [.ref (a 2), .ref (a 3), .ref (a 4), .ref (a 5), .ref (a 6), .ref (a 7), .ref (a 8), .int (nI n)]) := (hfr13 1 (by omega)).trans hsP1
  have h16 : w2 2 = .inl (k.2.1, 12, .inr (.inl up)) := (hfr13 2 (by omega)).trans hsP2
  have h17 : w2 3 = .inl (k.2.1, 12, .inr (.inl lo)) := (hfr13 3 (by omega)).trans hsP3
  have h18 : w2 4 = .inl (k.1, 12, .inl fa) := (hfr13 4 (by omega)).trans hsP4
  have h19 : w2 5 = .inl (k.1, 72, .inl we) := (hfr13 5 (by omega)).trans hsP5
  have h20 : w2 6 = .inl (k.1, 72, .inl ti) := (hfr13 6 (by omega)).trans hsP6
  have h21 : w2 7 = .inl (k.1, 12, .inl ri) := (hfr13 7 (by omega)).trans hsP7
  have h22 : w2 8 = .inl (k.2.2, 144, .inl jo) := (hfr13 8 (by omega)).trans hsP8
  refine lv_aload_n hx hb dL_law_318 rfl (lv_at hl 3 rfl) ?_
  refine g_ViR (i := 22) (As := []) (rest := []) (kD_thrown hA h4) calD_thrown cvD_thrown mlL_89 hx hb hml hown hts hB hG hK hS (by decide) h4 rfl ⟨by decide, by decide⟩ rfl hl.1 rfl (Nat.le_of_ble_eq_true rfl) dL_law_319 ⟨by show cs + 1 + 0 + 0 ≤ 1087; omega, by show ss + 6 + 0 + 0 ≤ 9297; omega⟩ (fun H locs hG hS => ?_)
  refine lv_iload hx hb dL_law_322 (lv_at hl 0 rfl) ?_
  refine lv_icmp_eq (tgt := 329) hx hb dL_law_324 (by decide) (fun _ => ?_) (fun h9 => absurd h9 (by decide))
  refine lv_goto (tgt := 1235) hx hb dL_law_329 (by decide) ?_
  exact kk _ _ _ _  h14 ⟨h15, h16, h17, h18, h19, h20, h21, h22⟩ h4 ⟨h5, h6, h7, h8, h9, h10, h11⟩  hfr13 hG hS (lv_sub hl [1, 2, 3, 4, 5] rfl)

set_option maxRecDepth 100000 in
set_option maxHeartbeats 4000000 in
theorem st_face_h {p : Program} {l : Launch} {e : Env} {s : State} {m : MethodId} {args : Array Value} {below : List Frame} {meth : Method} {c : Code} {Q : State → Prop} (hl9 : l.stackTraces = false) {D : va_G} {k : ClassId × ClassId × ClassId} {a : Nat → Nat} {B0 : Nat} {w : Nat → va_E} (hA : gA B0 a) (hx : p.tables.exec = Jvm.exec) (hb : c.code = cL_law) (hml : c.maxLocals = 8) (hown : s.vm.findClass RL = some m.cls) (hts : ∀ w ∈ TB, w.before args s = true) (hB : B0 ≤ s.heap.size) (hK : va_K D vwCl (gT k) s) (hXS : xS B0 s) {b Ls : Nat} {xs : Nat → Int32} (hX : va_X b Ls xs s s.heap) (hbl : b < s.heap.size) (hbA : ¬ gF B0 b) (hL9 : Ls ≤ 2048) {ii : Nat} (hi4 : ii + 4 ≤ Ls) {n : Nat} {up : Nat → Int64} {lo : Nat → Int64} {fa : Nat → Int32} {we : Nat → Int32} {ti : Nat → Int32} {ri : Nat → Int32} {jo : Nat → Int32} {th : Int32} {nr : Nat} {nf : Nat} {bw : Int32} {bd : Int32} {nt : Nat} {rd : Nat → Int32} {ma : Nat → Int32} {mb : Nat → Int32} {mc : Nat → Int32} {co : Nat → Int32} {jn : Nat → Int32} {ro : Nat → Int32} (hsX : sX k a w ) (hsP : sP k a w n up lo fa we ti ri jo) (hsD : sD k a w th n nr nf bw bd nt) (hsDP : sDP k a w rd ma mb mc co jn ro) (j : Nat) (f : Int32) (h : Int32) (h_1 : xs (ii + 1) = nI j) (h_2 : xs (ii + 2) = f) (h_3 : xs (ii + 3) = h) (hj : j < n) (hn : n ≤ 12) (hf : ¬ f < 0 ∧ ¬ fa j ≤ f) (hh : ¬ rngI h 0 2) (hjD : j < n) (hnD : n ≤ 12) (hf5D : rd j = 0 → rngI f 0 5) (hf2D : ¬ rd j = 0 → rngI f 0 2) (hhD : ¬ rngI h 0 2) {H : Heap} {locs : List Loc} {ls : Array Slot} (hG : gW D a w H) (hS : va_S (gF B0) s.heap H locs) (hl : lv_has ls 8 [(0, .ref b), (1, .ref (a 0)), (2, .ref (a 22)), (3, .ref (a 21)), (4, .int (nI ii))]) {cs ss : Nat} (hcs : cs + 1 ≤ 1087) (hss : ss + 6 ≤ 9297)
 (kk : ∀ (w' : Nat → va_E) (H' : Heap) (locs' : List Loc) (ls' : Array Slot) , sX k a w' → sP k a w' n up lo fa we ti ri jo → sD k a w' 2 n nr nf bw bd nt → sDP k a w' rd ma mb mc co jn ro → (∀ z, (z < 22 ∨ 29 < z) → w' z = w z) → gW D a w' H' → va_S (gF B0) s.heap H' locs' → lv_has ls' 8 [(0, .ref b), (1, .ref (a 0)), (2, .ref (a 22)), (3, .ref (a 21)), (4, .int (nI ii))] → W p l e room_1 s m args below meth c H' locs' (cs + 1) (ss + 6) Q (F0 m 1235 ls' [])) : W p l e room_1 s m args below meth c H locs cs ss Q (F0 m 272 ls []) := by
  have hsX0 := hsX
  obtain ⟨hsP1, hsP2, hsP3, hsP4, hsP5, hsP6, hsP7, hsP8⟩ := hsP
  have hsD22 := hsD
  obtain ⟨hsDP23, hsDP24, hsDP25, hsDP26, hsDP27, hsDP28, hsDP29⟩ := hsDP
  refine lv_aload_n hx hb dL_law_272 rfl (lv_at hl 1 rfl) ?_
  refine lv_aload_n hx hb dL_law_273 rfl (lv_at hl 0 rfl) ?_
  refine lv_iload hx hb dL_law_274 (lv_at hl 4 rfl) ?_
  refine lv_iconst (v := 1) hx hb dL_law_276 (by decide) ?_
  refine ln_iadd (x := ii) (y := 1) hx hb dL_law_277 ?_
  refine l_sld (v := nI j) hx hb hX hbl hbA hS (j := ii + 1) (by omega) (by omega) h_1 dL_law_278 ?_
  refine lv_aload_n hx hb dL_law_279 rfl (lv_at hl 0 rfl) ?_
  refine lv_iload hx hb dL_law_280 (lv_at hl 4 rfl) ?_
  refine lv_iconst (v := 2) hx hb dL_law_282 (by decide) ?_
  refine ln_iadd (x := ii) (y := 2) hx hb dL_law_283 ?_
  refine l_sld (v := f) hx hb hX hbl hbA hS (j := ii + 2) (by omega) (by omega) h_2 dL_law_284 ?_
  refine lv_aload_n hx hb dL_law_285 rfl (lv_at hl 0 rfl) ?_
  refine lv_iload hx hb dL_law_286 (lv_at hl 4 rfl) ?_
  refine lv_iconst (v := 3) hx hb dL_law_288 (by decide) ?_
  refine ln_iadd (x := ii) (y := 3) hx hb dL_law_289 ?_
  refine l_sld (v := h) hx hb hX hbl hbA hS (j := ii + 3) (by omega) (by omega) h_3 dL_law_290 ?_
  refine y_Si (As := [.ref (a 0), .int (nI j), .int f, .int h]) (rest := []) (kL_face_h hl9 hA hsX0 ⟨hsP1, hsP2, hsP3, hsP4, hsP5, hsP6, hsP7, hsP8⟩ j f h hj hn hf hh) calL_face mlL_97 hx hb hml hown hts hB hG hK hS hXS ⟨by decide, by decide⟩ rfl hl.1 rfl (Nat.le_of_ble_eq_true rfl) dL_law_291 ⟨by show cs + 1 ≤ 1087; omega, by show ss + 6 ≤ 9297; omega⟩ (fun H locs hG hS => ?_)
  refine lv_istore (lv' := [(5, .int 2), (0, .ref b), (1, .ref (a 0)), (2, .ref (a 22)), (3, .ref (a 21)), (4, .int (nI ii))]) hx hb dL_law_294 hl (by decide) rfl (fun ls hl => ?_)
  refine lv_aload_n hx hb dL_law_296 rfl (lv_at hl 3 rfl) ?_
  refine lv_aload_n hx hb dL_law_297 rfl (lv_at hl 1 rfl) ?_
  refine lv_iload hx hb dL_law_298 (lv_at hl 5 rfl) ?_
  refine lv_iconst (v := 1) hx hb dL_law_300 (by decide) ?_
  refine ln_iadd (x := ii) (y := 1) hx hb dL_law_301 ?_
  refine l_sld (v := nI j) hx hb hX hbl hbA hS (j := ii + 1) (by omega) (by omega) h_1 dL_law_302 ?_
  refine lv_aload_n hx hb dL_law_303 rfl (lv_at hl 1 rfl) ?_
  refine lv_iload hx hb dL_law_304 (lv_at hl 5 rfl) ?_
  refine lv_iconst (v := 2) hx hb dL_law_306 (by decide) ?_
  refine ln_iadd (x := ii) (y := 2) hx hb dL_law_307 ?_
  refine l_sld (v := f) hx hb hX hbl hbA hS (j := ii + 2) (by omega) (by omega) h_2 dL_law_308 ?_
  refine lv_aload_n hx hb dL_law_309 rfl (lv_at hl 1 rfl) ?_
  refine lv_iload hx hb dL_law_310 (lv_at hl 5 rfl) ?_
  refine lv_iconst (v := 3) hx hb dL_law_312 (by decide) ?_
  refine ln_iadd (x := ii) (y := 3) hx hb dL_law_313 ?_
  refine l_sld (v := h) hx hb hX hbl hbA hS (j := ii + 3) (by omega) (by omega) h_3 dL_law_314 ?_
  refine g_Vv (i := 22) (As := [.int (nI j), .int f, .int h]) (rest := []) (kD_face_h hA hsD22 ⟨hsDP23, hsDP24, hsDP25, hsDP26, hsDP27, hsDP28, hsDP29⟩ j f h hjD hnD hf5D hf2D hhD) calD_face cvD_face mlL_100 hx hb hml hown hts hB hG hK hS (by decide) hsD22 rfl ⟨by decide, by decide⟩ rfl hl.1 rfl (Nat.le_of_ble_eq_true rfl) dL_law_315 ⟨by show cs + 1 + 0 ≤ 1087; omega, by show ss + 6 + 0 ≤ 9297; omega⟩ (fun w2 H locs hp3 hG hS => ?_)
  obtain ⟨h4, ⟨h5, h6, h7, h8, h9, h10, h11⟩, hfr13⟩ := hp3
  have h14 : w2 0 = .inr (0, [.ref (a 1), .ref (a 9), .ref (a 12), .ref (a 15)]) := (hfr13 0 (by omega)).trans hsX0
  have h15 : w2 1 = .inr (1, [.ref (a 2), .ref (a 3), .ref (a 4), .ref (a 5), .ref (a 6), .ref (a 7), .ref (a 8), .int (nI n)]) := (hfr13 1 (by omega)).trans hsP1
  have h16 : w2 2 = .inl (k.2.1, 12, .inr (.inl up)) := (hfr13 2 (by omega)).trans hsP2
  have h17 : w2 3 = .inl (k.2.1, 12, .inr (.inl lo)) := (hfr13 3 (by omega)).trans hsP3
  have h18 : w2 4 = .inl (k.1, 12, .inl fa) := (hfr13 4 (by omega)).trans hsP4
  have h19 : w2 5 = .inl (k.1, 72, .inl we) := (hfr13 5 (by omega)).trans hsP5
  have h20 : w2 6 = .inl (k.1, 72, .inl ti) := (hfr13 6 (by omega)).trans hsP6
  have h21 : w2 7 = .inl (k.1, 12, .inl ri) := (hfr13 7 (by omega)).trans hsP7
  have h22 : w2 8 = .inl (k.2.2, 144, .inl jo) := (hfr13 8 (by omega)).trans hsP8
  refine lv_aload_n hx hb dL_law_318 rfl (lv_at hl 3 rfl) ?_
  refine g_ViR (i := 22) (As := []) (rest := []) (kD_thrown hA h4) calD_thrown cvD_thrown mlL_89 hx hb hml hown hts hB hG hK hS (by decide) h4 rfl ⟨by decide, by decide⟩ rfl hl.1 rfl (Nat.le_of_ble_eq_true rfl) dL_law_319 ⟨by show cs + 1 + 0 + 0 ≤ 1087; omega, by show ss + 6 + 0 + 0 ≤ 9297; omega⟩ (fun H locs hG hS => ?_)
  refine lv_iload hx hb dL_law_322 (lv_at hl 0 rfl) ?_
  refine lv_icmp_eq (tgt := 329) hx hb dL_law_324 (by decide) (fun _ => ?_) (fun h9 => absurd h9 (by decide))
  refine lv_goto (tgt := 1235) hx hb dL_law_329 (by decide) ?_
  exact kk _ _ _ _  h14 ⟨h15, h16, h17, h18, h19, h20, h21, h22⟩ h4 ⟨h5, h6, h7, h8, h9, h10, h11⟩  hfr13 hG hS (lv_sub hl [1, 2, 3, 4, 5] rfl)

set_option maxRecDepth 100000 in
set_option maxHeartbeats 4000000 in
theorem st_modulus_k {p : Program} {l : Launch} {e : Env} {s : State} {m : MethodId} {args : Array Value} {below : List Frame} {meth : Method} {c : Code} {Q : State → Prop} (hl9 : l.stackTraces = false) {D : va_G} {k : ClassId × ClassId × ClassId} {a : Nat → Nat} {B0 : Nat} {w : Nat → va_E} (hA : gA B0 a) (hx : p.tables.exec = Jvm.exec) (hb : c.code = cL_law) (hml : c.maxLocals = 8) (hown : s.vm.findClass RL = some m.cls) (hts : ∀ w ∈ TB, w.before args s = true) (hB : B0 ≤ s.heap.size) (hK : va_K D vwCl (gT k) s) (hXS : xS B0 s) {b Ls : Nat} {xs : Nat → Int32} (hX : va_X b Ls xs s s.heap) (hbl : b < s.heap.size) (hbA : ¬ gF B0 b) (hL9 : Ls ≤ 2048) {ii : Nat} (hi4 : ii + 4 ≤ Ls) {n : Nat} {up : Nat → Int64} {lo : Nat → Int64} {fa : Nat → Int32} {we : Nat → Int32} {ti : Nat → Int32} {ri : Nat → Int32} {jo : Nat → Int32} {oo : Nat → Int64} {th : Int32} {nr : Nat} {nf : Nat} {bw : Int32} {bd : Int32} {nt : Nat} {rd : Nat → Int32} {ma : Nat → Int32} {mb : Nat → Int32} {mc : Nat → Int32} {co : Nat → Int32} {jn : Nat → Int32} {ro : Nat → Int32} (hsX : sX k a w ) (hsP : sP k a w n up lo fa we ti ri jo) (hsO : sO k a w oo) (hsD : sD k a w th n nr nf bw bd nt) (hsDP : sDP k a w rd ma mb mc co jn ro) (j : Nat) (q : Int32) (h_1 : xs (ii + 1) = nI j) (h_2 : xs (ii + 2) = q) (hj : j < n) (hn : n ≤ 12) (hw : rngI q 0 1) (ht : 0 < lo j) (hjD : j < n) (hnD : n ≤ 12) (hwD : rngI q 0 1) (UD : Nat) (LD : Nat) (hUD : mUp rd ma mb mc j = lN UD) (hLD : mLo rd ma mb mc co j = lN LD) (hU2D : UD < 2 ^ 62) (hL2D : LD < 2 ^ 62) (hL0D : 0 < LD) (hval : lowT (up j) (lo j) q = mMod (mUp rd ma mb mc j) (mLo rd ma mb mc co j) (Nat.gcd LD UD) q) {H : Heap} {locs : List Loc} {ls : Array Slot} (hG : gW D a w H) (hS : va_S (gF B0) s.heap H locs) (hl : lv_has ls 8 [(0, .ref b), (1, .ref (a 0)), (2, .ref (a 22)), (3, .ref (a 21)), (4, .int (nI ii))]) {cs ss : Nat} (hcs : cs + 1 ≤ 1087) (hss : ss + 6 ≤ 9297)
 (kk : ∀ (w' : Nat → va_E) (H' : Heap) (locs' : List Loc) (ls' : Array Slot) , sX k a w' → sP k a w' n up lo fa we ti ri jo → sO k a w' (vp_updL oo 0 (lowT (up j) (lo j) q)) → sD k a w' 0 n nr nf bw bd nt → sDP k a w' rd ma mb mc co jn ro → (∀ z, (z < 21 ∨ 21 < z) ∧ (z < 22 ∨ 29 < z) → w' z = w z) → gW D a w' H' → va_S (gF B0) s.heap H' locs' → lv_has ls' 8 [(0, .ref b), (1, .ref (a 0)), (2, .ref (a 22)), (3, .ref (a 21)), (4, .int (nI ii))] → W p l e room_1 s m args below meth c H' locs' (cs + 0) (ss + 0) Q (F0 m 1235 ls' [])) : W p l e room_1 s m args below meth c H locs cs ss Q (F0 m 332 ls []) := by
  have hsX0 := hsX
  obtain ⟨hsP1, hsP2, hsP3, hsP4, hsP5, hsP6, hsP7, hsP8⟩ := hsP
  have hsO21 := hsO
  have hsD22 := hsD
  obtain ⟨hsDP23, hsDP24, hsDP25, hsDP26, hsDP27, hsDP28, hsDP29⟩ := hsDP
  refine lv_aload_n hx hb dL_law_332 rfl (lv_at hl 1 rfl) ?_
  refine lv_aload_n hx hb dL_law_333 rfl (lv_at hl 0 rfl) ?_
  refine lv_iload hx hb dL_law_334 (lv_at hl 4 rfl) ?_
  refine lv_iconst (v := 1) hx hb dL_law_336 (by decide) ?_
  refine ln_iadd (x := ii) (y := 1) hx hb dL_law_337 ?_
  refine l_sld (v := nI j) hx hb hX hbl hbA hS (j := ii + 1) (by omega) (by omega) h_1 dL_law_338 ?_
  refine lv_aload_n hx hb dL_law_339 rfl (lv_at hl 0 rfl) ?_
  refine lv_iload hx hb dL_law_340 (lv_at hl 4 rfl) ?_
  refine lv_iconst (v := 2) hx hb dL_law_342 (by decide) ?_
  refine ln_iadd (x := ii) (y := 2) hx hb dL_law_343 ?_
  refine l_sld (v := q) hx hb hX hbl hbA hS (j := ii + 2) (by omega) (by omega) h_2 dL_law_344 ?_
  refine lv_aload_n hx hb dL_law_345 rfl (lv_at hl 3 rfl) ?_
  refine h_Si (As := [.ref (a 0), .int (nI j), .int q, .ref (a 21)]) (rest := []) (kL_modulus_k hA hsX0 ⟨hsP1, hsP2, hsP3, hsP4, hsP5, hsP6, hsP7, hsP8⟩ hsO21 j q hj hn hw ht) calL_modulus mlL_101 hx hb hml hown hts hB hG hK hS ⟨by decide, by decide⟩ rfl hl.1 rfl (Nat.le_of_ble_eq_true rfl) dL_law_346 ⟨by show cs + 0 ≤ 1087; omega, by show ss + 0 ≤ 9297; omega⟩ (fun r1 w2 H locs hp3 hG hS => ?_)
  obtain ⟨er5, h4, hfr6⟩ := hp3
  have h7 : w2 0 = .inr (0, [.ref (a 1), .ref (a 9), .ref (a 12), .ref (a 15)]) := (hfr6 0 (by omega)).trans hsX0
  have h8 : w2 1 = .inr (1, [.ref (a 2), .ref (a 3), .ref (a 4), .ref (a 5), .ref (a 6), .ref (a 7), .ref (a 8), .int (nI n)]) := (hfr6 1 (by omega)).trans hsP1
  have h9 : w2 2 = .inl (k.2.1, 12, .inr (.inl up)) := (hfr6 2 (by omega)).trans hsP2
  have h10 : w2 3 = .inl (k.2.1, 12, .inr (.inl lo)) := (hfr6 3 (by omega)).trans hsP3
  have h11 : w2 4 = .inl (k.1, 12, .inl fa) := (hfr6 4 (by omega)).trans hsP4
  have h12 : w2 5 = .inl (k.1, 72, .inl we) := (hfr6 5 (by omega)).trans hsP5
  have h13 : w2 6 = .inl (k.1, 72, .inl ti) := (hfr6 6 (by omega)).trans hsP6
  have h14 : w2 7 = .inl (k.1, 12, .inl ri) := (hfr6 7 (by omega)).trans hsP7
  have h15 : w2 8 = .inl (k.2.2, 144, .inl jo) := (hfr6 8 (by omega)).trans hsP8
  have h16 : w2 22 = .inr (5, [.int th, .int (nI n), .ref (a 23), .ref (a 24), .ref (a 25), .ref (a 26), .ref (a 27), .ref (a 28), .ref (a 29), .int (nI nr), .ref (a 30), .ref (a 31), .int (nI nf), .ref (a 32), .ref (a 33), .int bw, .int bd, .int (nI nt), .ref (a 34), .ref (a 35), .ref (a 36), .ref (a 37)]) := (hfr6 22 (by omega)).trans hsD22
  have h17 : w2 23 = .inl (k.2.2, 12, .inl rd) := (hfr6 23 (by omega)).trans hsDP23
  have h18 : w2 24 = .inl (k.1, 12, .inl ma) := (hfr6 24 (by omega)).trans hsDP24
  have h19 : w2 25 = .inl (k.1, 12, .inl mb) := (hfr6 25 (by omega)).trans hsDP25
  have h20 : w2 26 = .inl (k.1, 12, .inl mc) := (hfr6 26 (by omega)).trans hsDP26
  have h21 : w2 27 = .inl (k.1, 72, .inl co) := (hfr6 27 (by omega)).trans hsDP27
  have h22 : w2 28 = .inl (k.1, 12, .inl jn) := (hfr6 28 (by omega)).trans hsDP28
  have h23 : w2 29 = .inl (k.1, 12, .inl ro) := (hfr6 29 (by omega)).trans hsDP29
  rw [er5]
  refine lv_istore (lv' := [(5, .int 0), (0, .ref b), (1, .ref (a 0)), (2, .ref (a 22)), (3, .ref (a 21)), (4, .int (nI ii))]) hx hb dL_law_349 hl (by decide) rfl (fun ls hl => ?_)
  refine lv_aload_n hx hb dL_law_351 rfl (lv_at hl 3 rfl) ?_
  refine lv_aload_n hx hb dL_law_352 rfl (lv_at hl 1 rfl) ?_
  refine lv_iload hx hb dL_law_353 (lv_at hl 5 rfl) ?_
  refine lv_iconst (v := 1) hx hb dL_law_355 (by decide) ?_
  refine ln_iadd (x := ii) (y := 1) hx hb dL_law_356 ?_
  refine l_sld (v := nI j) hx hb hX hbl hbA hS (j := ii + 1) (by omega) (by omega) h_1 dL_law_357 ?_
  refine lv_aload_n hx hb dL_law_358 rfl (lv_at hl 1 rfl) ?_
  refine lv_iload hx hb dL_law_359 (lv_at hl 5 rfl) ?_
  refine lv_iconst (v := 2) hx hb dL_law_361 (by decide) ?_
  refine ln_iadd (x := ii) (y := 2) hx hb dL_law_362 ?_
  refine l_sld (v := q) hx hb hX hbl hbA hS (j := ii + 2) (by omega) (by omega) h_2 dL_law_363 ?_
  refine g_Vl (i := 22) (As := [.int (nI j), .int q]) (rest := []) (kD_modulus_k hA h16 ⟨h17, h18, h19, h20, h21, h22, h23⟩ j q hjD hnD hwD UD LD hUD hLD hU2D hL2D hL0D) calD_modulus cvD_modulus mlL_103 hx hb hml hown hts hB hG hK hS (by decide) h16 rfl ⟨by decide, by decide⟩ rfl hl.1 rfl (Nat.le_of_ble_eq_true rfl) dL_law_364 ⟨by show cs + 0 + 0 ≤ 1087; omega, by show ss + 0 + 0 ≤ 9297; omega⟩ (fun r24 w25 H locs hp26 hG hS => ?_)
  obtain ⟨er35, h27, ⟨h28, h29, h30, h31, h32, h33, h34⟩, hfr36⟩ := hp26
  have h37 : w25 0 = .inr (0, [.ref (a 1), .ref (a 9), .ref (a 12), .ref (a 15)]) := (hfr36 0 (by omega)).trans h7
  have h38 : w25 1 = .inr (1, [.ref (a 2), .ref (a 3), .ref (a 4), .ref (a 5), .ref (a 6), .ref (a 7), .ref (a 8), .int (nI n)]) := (hfr36 1 (by omega)).trans h8
  have h39 : w25 2 = .inl (k.2.1, 12, .inr (.inl up)) := (hfr36 2 (by omega)).trans h9
  have h40 : w25 3 = .inl (k.2.1, 12, .inr (.inl lo)) := (hfr36 3 (by omega)).trans h10
  have h41 : w25 4 = .inl (k.1, 12, .inl fa) := (hfr36 4 (by omega)).trans h11
  have h42 : w25 5 = .inl (k.1, 72, .inl we) := (hfr36 5 (by omega)).trans h12
  have h43 : w25 6 = .inl (k.1, 72, .inl ti) := (hfr36 6 (by omega)).trans h13
  have h44 : w25 7 = .inl (k.1, 12, .inl ri) := (hfr36 7 (by omega)).trans h14
  have h45 : w25 8 = .inl (k.2.2, 144, .inl jo) := (hfr36 8 (by omega)).trans h15
  have h46 : w25 21 = .inl (k.2.1, 1, .inr (.inl (vp_updL oo 0 (lowT (up j) (lo j) q)))) := (hfr36 21 (by omega)).trans h4
  rw [er35]
  refine lv_lstore (lv' := [(6, .long (mMod (mUp rd ma mb mc j) (mLo rd ma mb mc co j) (Nat.gcd LD UD) q)), (5, .int 0), (0, .ref b), (1, .ref (a 0)), (2, .ref (a 22)), (3, .ref (a 21)), (4, .int (nI ii))]) hx hb dL_law_367 hl (by decide) rfl (fun ls hl => ?_)
  refine lv_aload_n hx hb dL_law_369 rfl (lv_at hl 4 rfl) ?_
  refine g_ViR (i := 22) (As := []) (rest := []) (kD_thrown hA h27) calD_thrown cvD_thrown mlL_89 hx hb hml hown hts hB hG hK hS (by decide) h27 rfl ⟨by decide, by decide⟩ rfl hl.1 rfl (Nat.le_of_ble_eq_true rfl) dL_law_370 ⟨by show cs + 0 + 0 + 0 ≤ 1087; omega, by show ss + 0 + 0 + 0 ≤ 9297; omega⟩ (fun H locs hG hS => ?_)
  refine lv_iload hx hb dL_law_373 (lv_at hl 1 rfl) ?_
  refine lv_icmp_eq (tgt := 380) hx hb dL_law_375 (by decide) (fun _ => ?_) (fun h9 => absurd h9 (by decide))
  refine lv_iload hx hb dL_law_380 (lv_at hl 1 rfl) ?_
  refine lv_if_ne (tgt := 396) hx hb dL_law_382 (by decide) (fun h9 => absurd h9 (by decide)) (fun _ => ?_)
  refine lv_aload_n hx hb dL_law_385 rfl (lv_at hl 5 rfl) ?_
  refine lv_iconst (v := 0) hx hb dL_law_386 (by decide) ?_
  refine g_lald hx hb hK hG 21 (by decide) h46 (j := 0) (by omega) (by decide) dL_law_387 ?_
  refine lv_lload hx hb dL_law_388 (lv_at hl 0 rfl) ?_
  refine W.lcmp hx hb dL_law_390 ?_
  refine lc_if_eq (tgt := 396) hx hb dL_law_391 (by decide) (fun c49 => ?_) (fun c49 => (absurd (pk_uLs.trans hval) c49))
  refine lv_goto (tgt := 1235) hx hb dL_law_396 (by decide) ?_
  exact kk _ _ _ _  h37 ⟨h38, h39, h40, h41, h42, h43, h44, h45⟩ h46 h27 ⟨h28, h29, h30, h31, h32, h33, h34⟩  (fun z hz => (hfr36 z hz.2).trans (hfr6 z hz.1)) hG hS (lv_sub hl [2, 3, 4, 5, 6] rfl)

set_option maxRecDepth 100000 in
set_option maxHeartbeats 4000000 in
theorem st_modulus_p {p : Program} {l : Launch} {e : Env} {s : State} {m : MethodId} {args : Array Value} {below : List Frame} {meth : Method} {c : Code} {Q : State → Prop} (hl9 : l.stackTraces = false) {D : va_G} {k : ClassId × ClassId × ClassId} {a : Nat → Nat} {B0 : Nat} {w : Nat → va_E} (hA : gA B0 a) (hx : p.tables.exec = Jvm.exec) (hb : c.code = cL_law) (hml : c.maxLocals = 8) (hown : s.vm.findClass RL = some m.cls) (hts : ∀ w ∈ TB, w.before args s = true) (hB : B0 ≤ s.heap.size) (hK : va_K D vwCl (gT k) s) (hXS : xS B0 s) {b Ls : Nat} {xs : Nat → Int32} (hX : va_X b Ls xs s s.heap) (hbl : b < s.heap.size) (hbA : ¬ gF B0 b) (hL9 : Ls ≤ 2048) {ii : Nat} (hi4 : ii + 4 ≤ Ls) {n : Nat} {up : Nat → Int64} {lo : Nat → Int64} {fa : Nat → Int32} {we : Nat → Int32} {ti : Nat → Int32} {ri : Nat → Int32} {jo : Nat → Int32} {th : Int32} {nr : Nat} {nf : Nat} {bw : Int32} {bd : Int32} {nt : Nat} {rd : Nat → Int32} {ma : Nat → Int32} {mb : Nat → Int32} {mc : Nat → Int32} {co : Nat → Int32} {jn : Nat → Int32} {ro : Nat → Int32} (hsX : sX k a w ) (hsP : sP k a w n up lo fa we ti ri jo) (hsD : sD k a w th n nr nf bw bd nt) (hsDP : sDP k a w rd ma mb mc co jn ro) (q : Int32) (r : Int32) (h_1 : xs (ii + 1) = q) (h_2 : xs (ii + 2) = r) (hq : ¬ (¬ q < 0 ∧ ¬ nI n ≤ q)) (hqD : ¬ rngI q 0 (nI n - 1)) {H : Heap} {locs : List Loc} {ls : Array Slot} (hG : gW D a w H) (hS : va_S (gF B0) s.heap H locs) (hl : lv_has ls 8 [(0, .ref b), (1, .ref (a 0)), (2, .ref (a 22)), (3, .ref (a 21)), (4, .int (nI ii))]) {cs ss : Nat} (hcs : cs + 1 ≤ 1087) (hss : ss + 6 ≤ 9297)
 (kk : ∀ (w' : Nat → va_E) (H' : Heap) (locs' : List Loc) (ls' : Array Slot) , sX k a w' → sP k a w' n up lo fa we ti ri jo → sD k a w' 1 n nr nf bw bd nt → sDP k a w' rd ma mb mc co jn ro → (∀ z, (z < 22 ∨ 29 < z) → w' z = w z) → gW D a w' H' → va_S (gF B0) s.heap H' locs' → lv_has ls' 8 [(0, .ref b), (1, .ref (a 0)), (2, .ref (a 22)), (3, .ref (a 21)), (4, .int (nI ii))] → W p l e room_1 s m args below meth c H' locs' (cs + 1) (ss + 6) Q (F0 m 1235 ls' [])) : W p l e room_1 s m args below meth c H locs cs ss Q (F0 m 332 ls []) := by
  have hsX0 := hsX
  obtain ⟨hsP1, hsP2, hsP3, hsP4, hsP5, hsP6, hsP7, hsP8⟩ := hsP
  have hsD22 := hsD
  obtain ⟨hsDP23, hsDP24, hsDP25, hsDP26, hsDP27, hsDP28, hsDP29⟩ := hsDP
  refine lv_aload_n hx hb dL_law_332 rfl (lv_at hl 1 rfl) ?_
  refine lv_aload_n hx hb dL_law_333 rfl (lv_at hl 0 rfl) ?_
  refine lv_iload hx hb dL_law_334 (lv_at hl 4 rfl) ?_
  refine lv_iconst (v := 1) hx hb dL_law_336 (by decide) ?_
  refine ln_iadd (x := ii) (y := 1) hx hb dL_law_337 ?_
  refine l_sld (v := q) hx hb hX hbl hbA hS (j := ii + 1) (by omega) (by omega) h_1 dL_law_338 ?_
  refine lv_aload_n hx hb dL_law_339 rfl (lv_at hl 0 rfl) ?_
  refine lv_iload hx hb dL_law_340 (lv_at hl 4 rfl) ?_
  refine lv_iconst (v := 2) hx hb dL_law_342 (by decide) ?_
  refine ln_iadd (x := ii) (y := 2) hx hb dL_law_343 ?_
  refine l_sld (v := r) hx hb hX hbl hbA hS (j := ii + 2) (by omega) (by omega) h_2 dL_law_344 ?_
  refine lv_aload_n hx hb dL_law_345 rfl (lv_at hl 3 rfl) ?_
  refine y_Si (As := [.ref (a 0), .int q, .int r, .ref (a 21)]) (rest := []) (kL_modulus_p hl9 hA hsX0 ⟨hsP1, hsP2, hsP3, hsP4, hsP5, hsP6, hsP7, hsP8⟩ q r hq) calL_modulus mlL_101 hx hb hml hown hts hB hG hK hS hXS ⟨by decide, by decide⟩ rfl hl.1 rfl (Nat.le_of_ble_eq_true rfl) dL_law_346 ⟨by show cs + 1 ≤ 1087; omega, by show ss + 6 ≤ 9297; omega⟩ (fun H locs hG hS => ?_)
  refine lv_istore (lv' := [(5, .int 1), (0, .ref b), (1, .ref (a 0)), (2, .ref (a 22)), (3, .ref (a 21)), (4, .int (nI ii))]) hx hb dL_law_349 hl (by decide) rfl (fun ls hl => ?_)
  refine lv_aload_n hx hb dL_law_351 rfl (lv_at hl 3 rfl) ?_
  refine lv_aload_n hx hb dL_law_352 rfl (lv_at hl 1 rfl) ?_
  refine lv_iload hx hb dL_law_353 (lv_at hl 5 rfl) ?_
  refine lv_iconst (v := 1) hx hb dL_law_355 (by decide) ?_
  refine ln_iadd (x := ii) (y := 1) hx hb dL_law_356 ?_
  refine l_sld (v := q) hx hb hX hbl hbA hS (j := ii + 1) (by omega) (by omega) h_1 dL_law_357 ?_
  refine lv_aload_n hx hb dL_law_358 rfl (lv_at hl 1 rfl) ?_
  refine lv_iload hx hb dL_law_359 (lv_at hl 5 rfl) ?_
  refine lv_iconst (v := 2) hx hb dL_law_361 (by decide) ?_
  refine ln_iadd (x := ii) (y := 2) hx hb dL_law_362 ?_
  refine l_sld (v := r) hx hb hX hbl hbA hS (j := ii + 2) (by omega) (by omega) h_2 dL_law_363 ?_
  refine g_Vl (i := 22) (As := [.int q, .int r]) (rest := []) (kD_modulus_p hA hsD22 ⟨hsDP23, hsDP24, hsDP25, hsDP26, hsDP27, hsDP28, hsDP29⟩ q r hqD) calD_modulus cvD_modulus mlL_103 hx hb hml hown hts hB hG hK hS (by decide) hsD22 rfl ⟨by decide, by decide⟩ rfl hl.1 rfl (Nat.le_of_ble_eq_true rfl) dL_law_364 ⟨by show cs + 1 + 0 ≤ 1087; omega, by show ss + 6 + 0 ≤ 9297; omega⟩ (fun r1 w2 H locs hp3 hG hS => ?_)
  obtain ⟨er12, h4, ⟨h5, h6, h7, h8, h9, h10, h11⟩, hfr13⟩ := hp3
  have h14 : w2 0 = .inr (0, [.ref (a 1), .ref (a 9), .ref (a 12), .ref (a 15)]) := (hfr13 0 (by omega)).trans hsX0
  have h15 : w2 1 = .inr (1, [.ref (a 2), .ref (a 3), .ref (a 4), .ref (a 5), .ref (a 6), .ref (a 7), .ref (a 8), .int (nI n)]) := (hfr13 1 (by omega)).trans hsP1
  have h16 : w2 2 = .inl (k.2.1, 12, .inr (.inl up)) := (hfr13 2 (by omega)).trans hsP2
  have h17 : w2 3 = .inl (k.2.1, 12, .inr (.inl lo)) := (hfr13 3 (by omega)).trans hsP3
  have h18 : w2 4 = .inl (k.1, 12, .inl fa) := (hfr13 4 (by omega)).trans hsP4
  have h19 : w2 5 = .inl (k.1, 72, .inl we) := (hfr13 5 (by omega)).trans hsP5
  have h20 : w2 6 = .inl (k.1, 72, .inl ti) := (hfr13 6 (by omega)).trans hsP6
  have h21 : w2 7 = .inl (k.1, 12, .inl ri) := (hfr13 7 (by omega)).trans hsP7
  have h22 : w2 8 = .inl (k.2.2, 144, .inl jo) := (hfr13 8 (by omega)).trans hsP8
  rw [er12]
  refine lv_lstore (lv' := [(6, .long 0), (5, .int 1), (0, .ref b), (1, .ref (a 0)), (2, .ref (a 22)), (3, .ref (a 21)), (4, .int (nI ii))]) hx hb dL_law_367 hl (by decide) rfl (fun ls hl => ?_)
  refine lv_aload_n hx hb dL_law_369 rfl (lv_at hl 4 rfl) ?_
  refine g_ViR (i := 22) (As := []) (rest := []) (kD_thrown hA h4) calD_thrown cvD_thrown mlL_89 hx hb hml hown hts hB hG hK hS (by decide) h4 rfl ⟨by decide, by decide⟩ rfl hl.1 rfl (Nat.le_of_ble_eq_true rfl) dL_law_370 ⟨by show cs + 1 + 0 + 0 ≤ 1087; omega, by show ss + 6 + 0 + 0 ≤ 9297; omega⟩ (fun H locs hG hS => ?_)
  refine lv_iload hx hb dL_law_373 (lv_at hl 1 rfl) ?_
  refine lv_icmp_eq (tgt := 380) hx hb dL_law_375 (by decide) (fun _ => ?_) (fun h9 => absurd h9 (by decide))
  refine lv_iload hx hb dL_law_380 (lv_at hl 1 rfl) ?_
  refine lv_if_ne (tgt := 396) hx hb dL_law_382 (by decide) (fun _ => ?_) (fun h9 => absurd h9 (by decide))
  refine lv_goto (tgt := 1235) hx hb dL_law_396 (by decide) ?_
  exact kk _ _ _ _  h14 ⟨h15, h16, h17, h18, h19, h20, h21, h22⟩ h4 ⟨h5, h6, h7, h8, h9, h10, h11⟩  hfr13 hG hS (lv_sub hl [2, 3, 4, 5, 6] rfl)

set_option maxRecDepth 100000 in
set_option maxHeartbeats 4000000 in
theorem st_modulus_w {p : Program} {l : Launch} {e : Env} {s : State} {m : MethodId} {args : Array Value} {below : List Frame} {meth : Method} {c : Code} {Q : State → Prop} (hl9 : l.stackTraces = false) {D : va_G} {k : ClassId × ClassId × ClassId} {a : Nat → Nat} {B0 : Nat} {w : Nat → va_E} (hA : gA B0 a) (hx : p.tables.exec = Jvm.exec) (hb : c.code = cL_law) (hml : c.maxLocals = 8) (hown : s.vm.findClass RL = some m.cls) (hts : ∀ w ∈ TB, w.before args s = true) (hB : B0 ≤ s.heap.size) (hK : va_K D vwCl (gT k) s) (hXS : xS B0 s) {b Ls : Nat} {xs : Nat → Int32} (hX : va_X b Ls xs s s.heap) (hbl : b < s.heap.size) (hbA : ¬ gF B0 b) (hL9 : Ls ≤ 2048) {ii : Nat} (hi4 : ii + 4 ≤ Ls) {n : Nat} {up : Nat → Int64} {lo : Nat → Int64} {fa : Nat → Int32} {we : Nat → Int32} {ti : Nat → Int32} {ri : Nat → Int32} {jo : Nat → Int32} {th : Int32} {nr : Nat} {nf : Nat} {bw : Int32} {bd : Int32} {nt : Nat} {rd : Nat → Int32} {ma : Nat → Int32} {mb : Nat → Int32} {mc : Nat → Int32} {co : Nat → Int32} {jn : Nat → Int32} {ro : Nat → Int32} (hsX : sX k a w ) (hsP : sP k a w n up lo fa we ti ri jo) (hsD : sD k a w th n nr nf bw bd nt) (hsDP : sDP k a w rd ma mb mc co jn ro) (j : Nat) (r : Int32) (h_1 : xs (ii + 1) = nI j) (h_2 : xs (ii + 2) = r) (hj : j < n) (hn : n ≤ 12) (hw : ¬ rngI r 0 1) (hjD : j < n) (hnD : n ≤ 12) (hwD : ¬ rngI r 0 1) {H : Heap} {locs : List Loc} {ls : Array Slot} (hG : gW D a w H) (hS : va_S (gF B0) s.heap H locs) (hl : lv_has ls 8 [(0, .ref b), (1, .ref (a 0)), (2, .ref (a 22)), (3, .ref (a 21)), (4, .int (nI ii))]) {cs ss : Nat} (hcs : cs + 1 ≤ 1087) (hss : ss + 6 ≤ 9297)
 (kk : ∀ (w' : Nat → va_E) (H' : Heap) (locs' : List Loc) (ls' : Array Slot) , sX k a w' → sP k a w' n up lo fa we ti ri jo → sD k a w' 1 n nr nf bw bd nt → sDP k a w' rd ma mb mc co jn ro → (∀ z, (z < 22 ∨ 29 < z) → w' z = w z) → gW D a w' H' → va_S (gF B0) s.heap H' locs' → lv_has ls' 8 [(0, .ref b), (1, .ref (a 0)), (2, .ref (a 22)), (3, .ref (a 21)), (4, .int (nI ii))] → W p l e room_1 s m args below meth c H' locs' (cs + 1) (ss + 6) Q (F0 m 1235 ls' [])) : W p l e room_1 s m args below meth c H locs cs ss Q (F0 m 332 ls []) := by
  have hsX0 := hsX
  obtain ⟨hsP1, hsP2, hsP3, hsP4, hsP5, hsP6, hsP7, hsP8⟩ := hsP
  have hsD22 := hsD
  obtain ⟨hsDP23, hsDP24, hsDP25, hsDP26, hsDP27, hsDP28, hsDP29⟩ := hsDP
  refine lv_aload_n hx hb dL_law_332 rfl (lv_at hl 1 rfl) ?_
  refine lv_aload_n hx hb dL_law_333 rfl (lv_at hl 0 rfl) ?_
  refine lv_iload hx hb dL_law_334 (lv_at hl 4 rfl) ?_
  refine lv_iconst (v := 1) hx hb dL_law_336 (by decide) ?_
  refine ln_iadd (x := ii) (y := 1) hx hb dL_law_337 ?_
  refine l_sld (v := nI j) hx hb hX hbl hbA hS (j := ii + 1) (by omega) (by omega) h_1 dL_law_338 ?_
  refine lv_aload_n hx hb dL_law_339 rfl (lv_at hl 0 rfl) ?_
  refine lv_iload hx hb dL_law_340 (lv_at hl 4 rfl) ?_
  refine lv_iconst (v := 2) hx hb dL_law_342 (by decide) ?_
  refine ln_iadd (x := ii) (y := 2) hx hb dL_law_343 ?_
  refine l_sld (v := r) hx hb hX hbl hbA hS (j := ii + 2) (by omega) (by omega) h_2 dL_law_344 ?_
  refine lv_aload_n hx hb dL_law_345 rfl (lv_at hl 3 rfl) ?_
  refine y_Si (As := [.ref (a 0), .int (nI j), .int r, .ref (a 21)]) (rest := []) (kL_modulus_w hl9 hA hsX0 ⟨hsP1, hsP2, hsP3, hsP4, hsP5, hsP6, hsP7, hsP8⟩ j r hj hn hw) calL_modulus mlL_101 hx hb hml hown hts hB hG hK hS hXS ⟨by decide, by decide⟩ rfl hl.1 rfl (Nat.le_of_ble_eq_true rfl) dL_law_346 ⟨by show cs + 1 ≤ 1087; omega, by show ss + 6 ≤ 9297; omega⟩ (fun H locs hG hS => ?_)
  refine lv_istore (lv' := [(5, .int 1), (0, .ref b), (1, .ref (a 0)), (2, .ref (a 22)), (3, .ref (a 21)), (4, .int (nI ii))]) hx hb dL_law_349 hl (by decide) rfl (fun ls hl => ?_)
  refine lv_aload_n hx hb dL_law_351 rfl (lv_at hl 3 rfl) ?_
  refine lv_aload_n hx hb dL_law_352 rfl (lv_at hl 1 rfl) ?_
  refine lv_iload hx hb dL_law_353 (lv_at hl 5 rfl) ?_
  refine lv_iconst (v := 1) hx hb dL_law_355 (by decide) ?_
  refine ln_iadd (x := ii) (y := 1) hx hb dL_law_356 ?_
  refine l_sld (v := nI j) hx hb hX hbl hbA hS (j := ii + 1) (by omega) (by omega) h_1 dL_law_357 ?_
  refine lv_aload_n hx hb dL_law_358 rfl (lv_at hl 1 rfl) ?_
  refine lv_iload hx hb dL_law_359 (lv_at hl 5 rfl) ?_
  refine lv_iconst (v := 2) hx hb dL_law_361 (by decide) ?_
  refine ln_iadd (x := ii) (y := 2) hx hb dL_law_362 ?_
  refine l_sld (v := r) hx hb hX hbl hbA hS (j := ii + 2) (by omega) (by omega) h_2 dL_law_363 ?_
  refine g_Vl (i := 22) (As := [.int (nI j), .int r]) (rest := []) (kD_modulus_w hA hsD22 ⟨hsDP23, hsDP24, hsDP25, hsDP26, hsDP27, hsDP28, hsDP29⟩ j r hjD hnD hwD) calD_modulus cvD_modulus mlL_103 hx hb hml hown hts hB hG hK hS (by decide) hsD22 rfl ⟨by decide, by decide⟩ rfl hl.1 rfl (Nat.le_of_ble_eq_true rfl) dL_law_364 ⟨by show cs + 1 + 0 ≤ 1087; omega, by show ss + 6 + 0 ≤ 9297; omega⟩ (fun r1 w2 H locs hp3 hG hS => ?_)
  obtain ⟨er12, h4, ⟨h5, h6, h7, h8, h9, h10, h11⟩, hfr13⟩ := hp3
  have h14 : w2 0 = .inr (0, [.ref (a 1), .ref (a 9), .ref (a 12), .ref (a 15)]) := (hfr13 0 (by omega)).trans hsX0
  have h15 : w2 1 = .inr (1, [.ref (a 2), .ref (a 3), .ref (a 4), .ref (a 5), .ref (a 6), .ref (a 7), .ref (a 8), .int (nI n)]) := (hfr13 1 (by omega)).trans hsP1
  have h16 : w2 2 = .inl (k.2.1, 12, .inr (.inl up)) := (hfr13 2 (by omega)).trans hsP2
  have h17 : w2 3 = .inl (k.2.1, 12, .inr (.inl lo)) := (hfr13 3 (by omega)).trans hsP3
  have h18 : w2 4 = .inl (k.1, 12, .inl fa) := (hfr13 4 (by omega)).trans hsP4
  have h19 : w2 5 = .inl (k.1, 72, .inl we) := (hfr13 5 (by omega)).trans hsP5
  have h20 : w2 6 = .inl (k.1, 72, .inl ti) := (hfr13 6 (by omega)).trans hsP6
  have h21 : w2 7 = .inl (k.1, 12, .inl ri) := (hfr13 7 (by omega)).trans hsP7
  have h22 : w2 8 = .inl (k.2.2, 144, .inl jo) := (hfr13 8 (by omega)).trans hsP8
  rw [er12]
  refine lv_lstore (lv' := [(6, .long 0), (5, .int 1), (0, .ref b), (1, .ref (a 0)), (2, .ref (a 22)), (3, .ref (a 21)), (4, .int (nI ii))]) hx hb dL_law_367 hl (by decide) rfl (fun ls hl => ?_)
  refine lv_aload_n hx hb dL_law_369 rfl (lv_at hl 4 rfl) ?_
  refine g_ViR (i := 22) (As := []) (rest := []) (kD_thrown hA h4) calD_thrown cvD_thrown mlL_89 hx hb hml hown hts hB hG hK hS (by decide) h4 rfl ⟨by decide, by decide⟩ rfl hl.1 rfl (Nat.le_of_ble_eq_true rfl) dL_law_370 ⟨by show cs + 1 + 0 + 0 ≤ 1087; omega, by show ss + 6 + 0 + 0 ≤ 9297; omega⟩ (fun H locs hG hS => ?_)
  refine lv_iload hx hb dL_law_373 (lv_at hl 1 rfl) ?_
  refine lv_icmp_eq (tgt := 380) hx hb dL_law_375 (by decide) (fun _ => ?_) (fun h9 => absurd h9 (by decide))
  refine lv_iload hx hb dL_law_380 (lv_at hl 1 rfl) ?_
  refine lv_if_ne (tgt := 396) hx hb dL_law_382 (by decide) (fun _ => ?_) (fun h9 => absurd h9 (by decide))
  refine lv_goto (tgt := 1235) hx hb dL_law_396 (by decide) ?_
  exact kk _ _ _ _  h14 ⟨h15, h16, h17, h18, h19, h20, h21, h22⟩ h4 ⟨h5, h6, h7, h8, h9, h10, h11⟩  hfr13 hG hS (lv_sub hl [2, 3, 4, 5, 6] rfl)

set_option maxRecDepth 100000 in
set_option maxHeartbeats 4000000 in
theorem st_modulus_t {p : Program} {l : Launch} {e : Env} {s : State} {m : MethodId} {args : Array Value} {below : List Frame} {meth : Method} {c : Code} {Q : State → Prop} (hl9 : l.stackTraces = false) {D : va_G} {k : ClassId × ClassId × ClassId} {a : Nat → Nat} {B0 : Nat} {w : Nat → va_E} (hA : gA B0 a) (hx : p.tables.exec = Jvm.exec) (hb : c.code = cL_law) (hml : c.maxLocals = 8) (hown : s.vm.findClass RL = some m.cls) (hts : ∀ w ∈ TB, w.before args s = true) (hB : B0 ≤ s.heap.size) (hK : va_K D vwCl (gT k) s) (hXS : xS B0 s) {b Ls : Nat} {xs : Nat → Int32} (hX : va_X b Ls xs s s.heap) (hbl : b < s.heap.size) (hbA : ¬ gF B0 b) (hL9 : Ls ≤ 2048) {ii : Nat} (hi4 : ii + 4 ≤ Ls) {n : Nat} {up : Nat → Int64} {lo : Nat → Int64} {fa : Nat → Int32} {we : Nat → Int32} {ti : Nat → Int32} {ri : Nat → Int32} {jo : Nat → Int32} {th : Int32} {nr : Nat} {nf : Nat} {bw : Int32} {bd : Int32} {nt : Nat} {rd : Nat → Int32} {ma : Nat → Int32} {mb : Nat → Int32} {mc : Nat → Int32} {co : Nat → Int32} {jn : Nat → Int32} {ro : Nat → Int32} (hsX : sX k a w ) (hsP : sP k a w n up lo fa we ti ri jo) (hsD : sD k a w th n nr nf bw bd nt) (hsDP : sDP k a w rd ma mb mc co jn ro) (j : Nat) (r : Int32) (h_1 : xs (ii + 1) = nI j) (h_2 : xs (ii + 2) = r) (hj : j < n) (hn : n ≤ 12) (hw : rngI r 0 1) (ht : ¬ 0 < lo j) (hjD : j < n) (hnD : n ≤ 12) (hwD : rngI r 0 1) (htD : mLo rd ma mb mc co j = 0) {H : Heap} {locs : List Loc} {ls : Array Slot} (hG : gW D a w H) (hS : va_S (gF B0) s.heap H locs) (hl : lv_has ls 8 [(0, .ref b), (1, .ref (a 0)), (2, .ref (a 22)), (3, .ref (a 21)), (4, .int (nI ii))]) {cs ss : Nat} (hcs : cs + 1 ≤ 1087) (hss : ss + 6 ≤ 9297)
 (kk : ∀ (w' : Nat → va_E) (H' : Heap) (locs' : List Loc) (ls' : Array Slot) , sX k a w' → sP k a w' n up lo fa we ti ri jo → sD k a w' 2 n nr nf bw bd nt → sDP k a w' rd ma mb mc co jn ro → (∀ z, (z < 22 ∨ 29 < z) → w' z = w z) → gW D a w' H' → va_S (gF B0) s.heap H' locs' → lv_has ls' 8 [(0, .ref b), (1, .ref (a 0)), (2, .ref (a 22)), (3, .ref (a 21)), (4, .int (nI ii))] → W p l e room_1 s m args below meth c H' locs' (cs + 1) (ss + 6) Q (F0 m 1235 ls' [])) : W p l e room_1 s m args below meth c H locs cs ss Q (F0 m 332 ls []) := by
  have hsX0 := hsX
  obtain ⟨hsP1, hsP2, hsP3, hsP4, hsP5, hsP6, hsP7, hsP8⟩ := hsP
  have hsD22 := hsD
  obtain ⟨hsDP23, hsDP24, hsDP25, hsDP26, hsDP27, hsDP28, hsDP29⟩ := hsDP
  refine lv_aload_n hx hb dL_law_332 rfl (lv_at hl 1 rfl) ?_
  refine lv_aload_n hx hb dL_law_333 rfl (lv_at hl 0 rfl) ?_
  refine lv_iload hx hb dL_law_334 (lv_at hl 4 rfl) ?_
  refine lv_iconst (v := 1) hx hb dL_law_336 (by decide) ?_
  refine ln_iadd (x := ii) (y := 1) hx hb dL_law_337 ?_
  refine l_sld (v := nI j) hx hb hX hbl hbA hS (j := ii + 1) (by omega) (by omega) h_1 dL_law_338 ?_
  refine lv_aload_n hx hb dL_law_339 rfl (lv_at hl 0 rfl) ?_
  refine lv_iload hx hb dL_law_340 (lv_at hl 4 rfl) ?_
  refine lv_iconst (v := 2) hx hb dL_law_342 (by decide) ?_
  refine ln_iadd (x := ii) (y := 2) hx hb dL_law_343 ?_
  refine l_sld (v := r) hx hb hX hbl hbA hS (j := ii + 2) (by omega) (by omega) h_2 dL_law_344 ?_
  refine lv_aload_n hx hb dL_law_345 rfl (lv_at hl 3 rfl) ?_
  refine y_Si (As := [.ref (a 0), .int (nI j), .int r, .ref (a 21)]) (rest := []) (kL_modulus_t hl9 hA hsX0 ⟨hsP1, hsP2, hsP3, hsP4, hsP5, hsP6, hsP7, hsP8⟩ j r hj hn hw ht) calL_modulus mlL_101 hx hb hml hown hts hB hG hK hS hXS ⟨by decide, by decide⟩ rfl hl.1 rfl (Nat.le_of_ble_eq_true rfl) dL_law_346 ⟨by show cs + 1 ≤ 1087; omega, by show ss + 6 ≤ 9297; omega⟩ (fun H locs hG hS => ?_)
  refine lv_istore (lv' := [(5, .int 2), (0, .ref b), (1, .ref (a 0)), (2, .ref (a 22)), (3, .ref (a 21)), (4, .int (nI ii))]) hx hb dL_law_349 hl (by decide) rfl (fun ls hl => ?_)
  refine lv_aload_n hx hb dL_law_351 rfl (lv_at hl 3 rfl) ?_
  refine lv_aload_n hx hb dL_law_352 rfl (lv_at hl 1 rfl) ?_
  refine lv_iload hx hb dL_law_353 (lv_at hl 5 rfl) ?_
  refine lv_iconst (v := 1) hx hb dL_law_355 (by decide) ?_
  refine ln_iadd (x := ii) (y := 1) hx hb dL_law_356 ?_
  refine l_sld (v := nI j) hx hb hX hbl hbA hS (j := ii + 1) (by omega) (by omega) h_1 dL_law_357 ?_
  refine lv_aload_n hx hb dL_law_358 rfl (lv_at hl 1 rfl) ?_
  refine lv_iload hx hb dL_law_359 (lv_at hl 5 rfl) ?_
  refine lv_iconst (v := 2) hx hb dL_law_361 (by decide) ?_
  refine ln_iadd (x := ii) (y := 2) hx hb dL_law_362 ?_
  refine l_sld (v := r) hx hb hX hbl hbA hS (j := ii + 2) (by omega) (by omega) h_2 dL_law_363 ?_
  refine g_Vl (i := 22) (As := [.int (nI j), .int r]) (rest := []) (kD_modulus_t hA hsD22 ⟨hsDP23, hsDP24, hsDP25, hsDP26, hsDP27, hsDP28, hsDP29⟩ j r hjD hnD hwD htD) calD_modulus cvD_modulus mlL_103 hx hb hml hown hts hB hG hK hS (by decide) hsD22 rfl ⟨by decide, by decide⟩ rfl hl.1 rfl (Nat.le_of_ble_eq_true rfl) dL_law_364 ⟨by show cs + 1 + 0 ≤ 1087; omega, by show ss + 6 + 0 ≤ 9297; omega⟩ (fun r1 w2 H locs hp3 hG hS => ?_)
  obtain ⟨er12, h4, ⟨h5, h6, h7, h8, h9, h10, h11⟩, hfr13⟩ := hp3
  have h14 : w2 0 = .inr (0, [.ref (a 1), .ref (a 9), .ref (a 12), .ref (a 15)]) := (hfr13 0 (by omega)).trans hsX0
  have h15 : w2 1 = .inr (1, [.ref (a 2), .ref (a 3), .ref (a 4), .ref (a 5), .ref (a 6), .ref (a 7), .ref (a 8), .int (nI n)]) := (hfr13 1 (by omega)).trans hsP1
  have h16 : w2 2 = .inl (k.2.1, 12, .inr (.inl up)) := (hfr13 2 (by omega)).trans hsP2
  have h17 : w2 3 = .inl (k.2.1, 12, .inr (.inl lo)) := (hfr13 3 (by omega)).trans hsP3
  have h18 : w2 4 = .inl (k.1, 12, .inl fa) := (hfr13 4 (by omega)).trans hsP4
  have h19 : w2 5 = .inl (k.1, 72, .inl we) := (hfr13 5 (by omega)).trans hsP5
  have h20 : w2 6 = .inl (k.1, 72, .inl ti) := (hfr13 6 (by omega)).trans hsP6
  have h21 : w2 7 = .inl (k.1, 12, .inl ri) := (hfr13 7 (by omega)).trans hsP7
  have h22 : w2 8 = .inl (k.2.2, 144, .inl jo) := (hfr13 8 (by omega)).trans hsP8
  rw [er12]
  refine lv_lstore (lv' := [(6, .long 0), (5, .int 2), (0, .ref b), (1, .ref (a 0)), (2, .ref (a 22)), (3, .ref (a 21)), (4, .int (nI ii))]) hx hb dL_law_367 hl (by decide) rfl (fun ls hl => ?_)
  refine lv_aload_n hx hb dL_law_369 rfl (lv_at hl 4 rfl) ?_
  refine g_ViR (i := 22) (As := []) (rest := []) (kD_thrown hA h4) calD_thrown cvD_thrown mlL_89 hx hb hml hown hts hB hG hK hS (by decide) h4 rfl ⟨by decide, by decide⟩ rfl hl.1 rfl (Nat.le_of_ble_eq_true rfl) dL_law_370 ⟨by show cs + 1 + 0 + 0 ≤ 1087; omega, by show ss + 6 + 0 + 0 ≤ 9297; omega⟩ (fun H locs hG hS => ?_)
  refine lv_iload hx hb dL_law_373 (lv_at hl 1 rfl) ?_
  refine lv_icmp_eq (tgt := 380) hx hb dL_law_375 (by decide) (fun _ => ?_) (fun h9 => absurd h9 (by decide))
  refine lv_iload hx hb dL_law_380 (lv_at hl 1 rfl) ?_
  refine lv_if_ne (tgt := 396) hx hb dL_law_382 (by decide) (fun _ => ?_) (fun h9 => absurd h9 (by decide))
  refine lv_goto (tgt := 1235) hx hb dL_law_396 (by decide) ?_
  exact kk _ _ _ _  h14 ⟨h15, h16, h17, h18, h19, h20, h21, h22⟩ h4 ⟨h5, h6, h7, h8, h9, h10, h11⟩  hfr13 hG hS (lv_sub hl [2, 3, 4, 5, 6] rfl)

set_option maxRecDepth 100000 in
set_option maxHeartbeats 4000000 in
theorem st_join_k {p : Program} {l : Launch} {e : Env} {s : State} {m : MethodId} {args : Array Value} {below : List Frame} {meth : Method} {c : Code} {Q : State → Prop} (hl9 : l.stackTraces = false) {D : va_G} {k : ClassId × ClassId × ClassId} {a : Nat → Nat} {B0 : Nat} {w : Nat → va_E} (hA : gA B0 a) (hx : p.tables.exec = Jvm.exec) (hb : c.code = cL_law) (hml : c.maxLocals = 8) (hown : s.vm.findClass RL = some m.cls) (hts : ∀ w ∈ TB, w.before args s = true) (hB : B0 ≤ s.heap.size) (hK : va_K D vwCl (gT k) s) (hXS : xS B0 s) {b Ls : Nat} {xs : Nat → Int32} (hX : va_X b Ls xs s s.heap) (hbl : b < s.heap.size) (hbA : ¬ gF B0 b) (hL9 : Ls ≤ 2048) {ii : Nat} (hi4 : ii + 4 ≤ Ls) {n : Nat} {up : Nat → Int64} {lo : Nat → Int64} {fa : Nat → Int32} {we : Nat → Int32} {ti : Nat → Int32} {ri : Nat → Int32} {jo : Nat → Int32} {th : Int32} {nr : Nat} {nf : Nat} {bw : Int32} {bd : Int32} {nt : Nat} {rd : Nat → Int32} {ma : Nat → Int32} {mb : Nat → Int32} {mc : Nat → Int32} {co : Nat → Int32} {jn : Nat → Int32} {ro : Nat → Int32} (hsX : sX k a w ) (hsP : sP k a w n up lo fa we ti ri jo) (hsD : sD k a w th n nr nf bw bd nt) (hsDP : sDP k a w rd ma mb mc co jn ro) (j : Nat) (i : Nat) (v3 : Int32) (h_1 : xs (ii + 1) = nI j) (h_2 : xs (ii + 2) = nI i) (h_3 : xs (ii + 3) = v3) (hj : j < n) (hn : n ≤ 12) (hi : i < n) (hji : ¬ j = i) (hjo : ∀ z, z < 144 → narrow .boolean (.int (jo z)) = .int (jo z)) (hne : ¬ jo (j * 12 + i) = b2i (¬ v3 = 0)) (hjD : j < n) (hnD : n ≤ 12) (hiD : i < n) (hjiD : ¬ j = i) (hneD : ¬ (jn j >>> (nI i &&& 31)) &&& 1 = b2i (¬ v3 = 0)) {H : Heap} {locs : List Loc} {ls : Array Slot} (hG : gW D a w H) (hS : va_S (gF B0) s.heap H locs) (hl : lv_has ls 8 [(0, .ref b), (1, .ref (a 0)), (2, .ref (a 22)), (3, .ref (a 21)), (4, .int (nI ii))]) {cs ss : Nat} (hcs : cs + 1 ≤ 1087) (hss : ss + 6 ≤ 9297)
 (kk : ∀ (w' : Nat → va_E) (H' : Heap) (locs' : List Loc) (ls' : Array Slot) , sX k a w' → sP k a w' n up lo fa we ti ri (upd (upd jo (j * 12 + i) (b2i (¬ v3 = 0))) (i * 12 + j) (b2i (¬ v3 = 0))) → sD k a w' 0 n nr nf bw bd nt → sDP k a w' rd ma mb mc co (upd (upd jn j (jn j ^^^ (1 <<< (nI i &&& 31)))) i (upd jn j (jn j ^^^ (1 <<< (nI i &&& 31))) i ^^^ (1 <<< (nI j &&& 31)))) ro → (∀ z, (z < 1 ∨ 8 < z) ∧ (z < 22 ∨ 29 < z) → w' z = w z) → gW D a w' H' → va_S (gF B0) s.heap H' locs' → lv_has ls' 8 [(0, .ref b), (1, .ref (a 0)), (2, .ref (a 22)), (3, .ref (a 21)), (4, .int (nI ii))] → W p l e room_1 s m args below meth c H' locs' (cs + 0) (ss + 0) Q (F0 m 1235 ls' [])) : W p l e room_1 s m args below meth c H locs cs ss Q (F0 m 399 ls []) := by
  have hsX0 := hsX
  obtain ⟨hsP1, hsP2, hsP3, hsP4, hsP5, hsP6, hsP7, hsP8⟩ := hsP
  have hsD22 := hsD
  obtain ⟨hsDP23, hsDP24, hsDP25, hsDP26, hsDP27, hsDP28, hsDP29⟩ := hsDP
  refine lv_aload_n hx hb dL_law_399 rfl (lv_at hl 1 rfl) ?_
  refine lv_aload_n hx hb dL_law_400 rfl (lv_at hl 0 rfl) ?_
  refine lv_iload hx hb dL_law_401 (lv_at hl 4 rfl) ?_
  refine lv_iconst (v := 1) hx hb dL_law_403 (by decide) ?_
  refine ln_iadd (x := ii) (y := 1) hx hb dL_law_404 ?_
  refine l_sld (v := nI j) hx hb hX hbl hbA hS (j := ii + 1) (by omega) (by omega) h_1 dL_law_405 ?_
  refine lv_aload_n hx hb dL_law_406 rfl (lv_at hl 0 rfl) ?_
  refine lv_iload hx hb dL_law_407 (lv_at hl 4 rfl) ?_
  refine lv_iconst (v := 2) hx hb dL_law_409 (by decide) ?_
  refine ln_iadd (x := ii) (y := 2) hx hb dL_law_410 ?_
  refine l_sld (v := nI i) hx hb hX hbl hbA hS (j := ii + 2) (by omega) (by omega) h_2 dL_law_411 ?_
  refine lv_aload_n hx hb dL_law_412 rfl (lv_at hl 0 rfl) ?_
  refine lv_iload hx hb dL_law_413 (lv_at hl 4 rfl) ?_
  refine lv_iconst (v := 3) hx hb dL_law_415 (by decide) ?_
  refine ln_iadd (x := ii) (y := 3) hx hb dL_law_416 ?_
  refine l_sld (v := v3) hx hb hX hbl hbA hS (j := ii + 3) (by omega) (by omega) h_3 dL_law_417 ?_
  have mrg426_1 : ∀ (H : Heap) (locs : List Loc), gW D a w H → va_S (gF B0) s.heap H locs → W p l e room_1 s m args below meth c H locs cs ss Q (F0 m 426 ls [.int (b2i (¬ v3 = 0)), .int (nI i), .int (nI j), .ref (a 0)]) := by
    intro H locs hG hS
    refine h_Si (As := [.ref (a 0), .int (nI j), .int (nI i), .int (b2i (¬ v3 = 0))]) (rest := []) (kL_join_k hA hsX0 ⟨hsP1, hsP2, hsP3, hsP4, hsP5, hsP6, hsP7, hsP8⟩ j i (¬ v3 = 0) hj hn hi hji hjo hne) calL_join mlL_104 hx hb hml hown hts hB hG hK hS ⟨by decide, by decide⟩ rfl hl.1 rfl (Nat.le_of_ble_eq_true rfl) dL_law_426 ⟨by show cs + 0 ≤ 1087; omega, by show ss + 0 ≤ 9297; omega⟩ (fun r2 w3 H locs hp4 hG hS => ?_)
    obtain ⟨er13, ⟨h5, h6, h7, h8, h9, h10, h11, h12⟩, hfr14⟩ := hp4
    have h15 : w3 0 = .inr (0, [.ref (a 1), .ref (a 9), .ref (a 12), .ref (a 15)]) := (hfr14 0 (by omega)).trans hsX0
    have h16 : w3 22 = .inr (5, [.int th, .int (nI n), .ref (a 23), .ref (a 24), .ref (a 25), .ref (a 26), .ref (a 27), .ref (a 28), .ref (a 29), .int (nI nr), .ref (a 30), .ref (a 31), .int (nI nf), .ref (a 32), .ref (a 33), .int bw, .int bd, .int (nI nt), .ref (a 34), .ref (a 35), .ref (a 36), .ref (a 37)]) := (hfr14 22 (by omega)).trans hsD22
    have h17 : w3 23 = .inl (k.2.2, 12, .inl rd) := (hfr14 23 (by omega)).trans hsDP23
    have h18 : w3 24 = .inl (k.1, 12, .inl ma) := (hfr14 24 (by omega)).trans hsDP24
    have h19 : w3 25 = .inl (k.1, 12, .inl mb) := (hfr14 25 (by omega)).trans hsDP25
    have h20 : w3 26 = .inl (k.1, 12, .inl mc) := (hfr14 26 (by omega)).trans hsDP26
    have h21 : w3 27 = .inl (k.1, 72, .inl co) := (hfr14 27 (by omega)).trans hsDP27
    have h22 : w3 28 = .inl (k.1, 12, .inl jn) := (hfr14 28 (by omega)).trans hsDP28
    have h23 : w3 29 = .inl (k.1, 12, .inl ro) := (hfr14 29 (by omega)).trans hsDP29
    rw [er13]
    refine lv_istore (lv' := [(5, .int 0), (0, .ref b), (1, .ref (a 0)), (2, .ref (a 22)), (3, .ref (a 21)), (4, .int (nI ii))]) hx hb dL_law_429 hl (by decide) rfl (fun ls hl => ?_)
    refine lv_aload_n hx hb dL_law_431 rfl (lv_at hl 3 rfl) ?_
    refine lv_aload_n hx hb dL_law_432 rfl (lv_at hl 1 rfl) ?_
    refine lv_iload hx hb dL_law_433 (lv_at hl 5 rfl) ?_
    refine lv_iconst (v := 1) hx hb dL_law_435 (by decide) ?_
    refine ln_iadd (x := ii) (y := 1) hx hb dL_law_436 ?_
    refine l_sld (v := nI j) hx hb hX hbl hbA hS (j := ii + 1) (by omega) (by omega) h_1 dL_law_437 ?_
    refine lv_aload_n hx hb dL_law_438 rfl (lv_at hl 1 rfl) ?_
    refine lv_iload hx hb dL_law_439 (lv_at hl 5 rfl) ?_
    refine lv_iconst (v := 2) hx hb dL_law_441 (by decide) ?_
    refine ln_iadd (x := ii) (y := 2) hx hb dL_law_442 ?_
    refine l_sld (v := nI i) hx hb hX hbl hbA hS (j := ii + 2) (by omega) (by omega) h_2 dL_law_443 ?_
    refine lv_aload_n hx hb dL_law_444 rfl (lv_at hl 1 rfl) ?_
    refine lv_iload hx hb dL_law_445 (lv_at hl 5 rfl) ?_
    refine lv_iconst (v := 3) hx hb dL_law_447 (by decide) ?_
    refine ln_iadd (x := ii) (y := 3) hx hb dL_law_448 ?_
    refine l_sld (v := v3) hx hb hX hbl hbA hS (j := ii + 3) (by omega) (by omega) h_3 dL_law_449 ?_
    have mrg458_24 : ∀ (H : Heap) (locs : List Loc), gW D a w3 H → va_S (gF B0) s.heap H locs → W p l e room_1 s m args below meth c H locs (cs + 0) (ss + 0) Q (F0 m 458 ls [.int (b2i (¬ v3 = 0)), .int (nI i), .int (nI j), .ref (a 22)]) := by
      intro H locs hG hS
      refine g_Vv (i := 22) (As := [.int (nI j), .int (nI i), .int (b2i (¬ v3 = 0))]) (rest := []) (kD_join_k hA h16 ⟨h17, h18, h19, h20, h21, h22, h23⟩ j i (¬ v3 = 0) hjD hnD hiD hjiD hneD) calD_join cvD_join mlL_107 hx hb hml hown hts hB hG hK hS (by decide) h16 rfl ⟨by decide, by decide⟩ rfl hl.1 rfl (Nat.le_of_ble_eq_true rfl) dL_law_458 ⟨by show cs + 0 + 0 ≤ 1087; omega, by show ss + 0 + 0 ≤ 9297; omega⟩ (fun w26 H locs hp27 hG hS => ?_)
      obtain ⟨h28, ⟨h29, h30, h31, h32, h33, h34, h35⟩, hfr37⟩ := hp27
      have h38 : w26 0 = .inr (0, [.ref (a 1), .ref (a 9), .ref (a 12), .ref (a 15)]) := (hfr37 0 (by omega)).trans h15
      have h39 : w26 1 = .inr (1, [.ref (a 2), .ref (a 3), .ref (a 4), .ref (a 5), .ref (a 6), .ref (a 7), .ref (a 8), .int (nI n)]) := (hfr37 1 (by omega)).trans h5
      have h40 : w26 2 = .inl (k.2.1, 12, .inr (.inl up)) := (hfr37 2 (by omega)).trans h6
      have h41 : w26 3 = .inl (k.2.1, 12, .inr (.inl lo)) := (hfr37 3 (by omega)).trans h7
      have h42 : w26 4 = .inl (k.1, 12, .inl fa) := (hfr37 4 (by omega)).trans h8
      have h43 : w26 5 = .inl (k.1, 72, .inl we) := (hfr37 5 (by omega)).trans h9
      have h44 : w26 6 = .inl (k.1, 72, .inl ti) := (hfr37 6 (by omega)).trans h10
      have h45 : w26 7 = .inl (k.1, 12, .inl ri) := (hfr37 7 (by omega)).trans h11
      have h46 : w26 8 = .inl (k.2.2, 144, .inl (upd (upd jo (j * 12 + i) (b2i (¬ v3 = 0))) (i * 12 + j) (b2i (¬ v3 = 0)))) := (hfr37 8 (by omega)).trans h12
      refine lv_aload_n hx hb dL_law_461 rfl (lv_at hl 3 rfl) ?_
      refine g_ViR (i := 22) (As := []) (rest := []) (kD_thrown hA h28) calD_thrown cvD_thrown mlL_89 hx hb hml hown hts hB hG hK hS (by decide) h28 rfl ⟨by decide, by decide⟩ rfl hl.1 rfl (Nat.le_of_ble_eq_true rfl) dL_law_462 ⟨by show cs + 0 + 0 + 0 ≤ 1087; omega, by show ss + 0 + 0 + 0 ≤ 9297; omega⟩ (fun H locs hG hS => ?_)
      refine lv_iload hx hb dL_law_465 (lv_at hl 0 rfl) ?_
      refine lv_icmp_eq (tgt := 472) hx hb dL_law_467 (by decide) (fun _ => ?_) (fun h9 => absurd h9 (by decide))
      refine lv_goto (tgt := 1235) hx hb dL_law_472 (by decide) ?_
      exact kk _ _ _ _  h38 ⟨h39, h40, h41, h42, h43, h44, h45, h46⟩ h28 ⟨h29, h30, h31, h32, h33, h34, h35⟩  (fun z hz => (hfr37 z hz.2).trans (hfr14 z hz.1)) hG hS (lv_sub hl [1, 2, 3, 4, 5] rfl)
    refine lv_if_eq (tgt := 457) hx hb dL_law_450 (by decide) (fun c48 => ?_) (fun c48 => ?_)
    · refine lv_iconst (v := 0) hx hb dL_law_457 (by decide) ?_
      have hz9 := mrg458_24 _ _ hG hS
      rw [b2i_f (P := ¬ v3 = 0) (by first | assumption | exact fun h9 => h9 (by assumption))] at hz9
      exact hz9
    · refine lv_iconst (v := 1) hx hb dL_law_453 (by decide) ?_
      refine lv_goto (tgt := 458) hx hb dL_law_454 (by decide) ?_
      have hz9 := mrg458_24 _ _ hG hS
      rw [b2i_t (P := ¬ v3 = 0) (by first | assumption | exact fun h9 => h9 (by assumption))] at hz9
      exact hz9
  refine lv_if_eq (tgt := 425) hx hb dL_law_418 (by decide) (fun c49 => ?_) (fun c49 => ?_)
  · refine lv_iconst (v := 0) hx hb dL_law_425 (by decide) ?_
    have hz9 := mrg426_1 _ _ hG hS
    rw [b2i_f (P := ¬ v3 = 0) (by first | assumption | exact fun h9 => h9 (by assumption))] at hz9
    exact hz9
  · refine lv_iconst (v := 1) hx hb dL_law_421 (by decide) ?_
    refine lv_goto (tgt := 426) hx hb dL_law_422 (by decide) ?_
    have hz9 := mrg426_1 _ _ hG hS
    rw [b2i_t (P := ¬ v3 = 0) (by first | assumption | exact fun h9 => h9 (by assumption))] at hz9
    exact hz9

set_option maxRecDepth 100000 in
set_option maxHeartbeats 4000000 in
theorem st_join_p {p : Program} {l : Launch} {e : Env} {s : State} {m : MethodId} {args : Array Value} {below : List Frame} {meth : Method} {c : Code} {Q : State → Prop} (hl9 : l.stackTraces = false) {D : va_G} {k : ClassId × ClassId × ClassId} {a : Nat → Nat} {B0 : Nat} {w : Nat → va_E} (hA : gA B0 a) (hx : p.tables.exec = Jvm.exec) (hb : c.code = cL_law) (hml : c.maxLocals = 8) (hown : s.vm.findClass RL = some m.cls) (hts : ∀ w ∈ TB, w.before args s = true) (hB : B0 ≤ s.heap.size) (hK : va_K D vwCl (gT k) s) (hXS : xS B0 s) {b Ls : Nat} {xs : Nat → Int32} (hX : va_X b Ls xs s s.heap) (hbl : b < s.heap.size) (hbA : ¬ gF B0 b) (hL9 : Ls ≤ 2048) {ii : Nat} (hi4 : ii + 4 ≤ Ls) {n : Nat} {up : Nat → Int64} {lo : Nat → Int64} {fa : Nat → Int32} {we : Nat → Int32} {ti : Nat → Int32} {ri : Nat → Int32} {jo : Nat → Int32} {th : Int32} {nr : Nat} {nf : Nat} {bw : Int32} {bd : Int32} {nt : Nat} {rd : Nat → Int32} {ma : Nat → Int32} {mb : Nat → Int32} {mc : Nat → Int32} {co : Nat → Int32} {jn : Nat → Int32} {ro : Nat → Int32} (hsX : sX k a w ) (hsP : sP k a w n up lo fa we ti ri jo) (hsD : sD k a w th n nr nf bw bd nt) (hsDP : sDP k a w rd ma mb mc co jn ro) (q : Int32) (r : Int32) (v3 : Int32) (h_1 : xs (ii + 1) = q) (h_2 : xs (ii + 2) = r) (h_3 : xs (ii + 3) = v3) (hq : ¬ (¬ q < 0 ∧ ¬ nI n ≤ q)) (hqD : ¬ rngI q 0 (nI n - 1)) {H : Heap} {locs : List Loc} {ls : Array Slot} (hG : gW D a w H) (hS : va_S (gF B0) s.heap H locs) (hl : lv_has ls 8 [(0, .ref b), (1, .ref (a 0)), (2, .ref (a 22)), (3, .ref (a 21)), (4, .int (nI ii))]) {cs ss : Nat} (hcs : cs + 1 ≤ 1087) (hss : ss + 6 ≤ 9297)
 (kk : ∀ (w' : Nat → va_E) (H' : Heap) (locs' : List Loc) (ls' : Array Slot) , sX k a w' → sP k a w' n up lo fa we ti ri jo → sD k a w' 1 n nr nf bw bd nt → sDP k a w' rd ma mb mc co jn ro → (∀ z, (z < 22 ∨ 29 < z) → w' z = w z) → gW D a w' H' → va_S (gF B0) s.heap H' locs' → lv_has ls' 8 [(0, .ref b), (1, .ref (a 0)), (2, .ref (a 22)), (3, .ref (a 21)), (4, .int (nI ii))] → W p l e room_1 s m args below meth c H' locs' (cs + 1) (ss + 6) Q (F0 m 1235 ls' [])) : W p l e room_1 s m args below meth c H locs cs ss Q (F0 m 399 ls []) := by
  have hsX0 := hsX
  obtain ⟨hsP1, hsP2, hsP3, hsP4, hsP5, hsP6, hsP7, hsP8⟩ := hsP
  have hsD22 := hsD
  obtain ⟨hsDP23, hsDP24, hsDP25, hsDP26, hsDP27, hsDP28, hsDP29⟩ := hsDP
  refine lv_aload_n hx hb dL_law_399 rfl (lv_at hl 1 rfl) ?_
  refine lv_aload_n hx hb dL_law_400 rfl (lv_at hl 0 rfl) ?_
  refine lv_iload hx hb dL_law_401 (lv_at hl 4 rfl) ?_
  refine lv_iconst (v := 1) hx hb dL_law_403 (by decide) ?_
  refine ln_iadd (x := ii) (y := 1) hx hb dL_law_404 ?_
  refine l_sld (v := q) hx hb hX hbl hbA hS (j := ii + 1) (by omega) (by omega) h_1 dL_law_405 ?_
  refine lv_aload_n hx hb dL_law_406 rfl (lv_at hl 0 rfl) ?_
  refine lv_iload hx hb dL_law_407 (lv_at hl 4 rfl) ?_
  refine lv_iconst (v := 2) hx hb dL_law_409 (by decide) ?_
  refine ln_iadd (x := ii) (y := 2) hx hb dL_law_410 ?_
  refine l_sld (v := r) hx hb hX hbl hbA hS (j := ii + 2) (by omega) (by omega) h_2 dL_law_411 ?_
  refine lv_aload_n hx hb dL_law_412 rfl (lv_at hl 0 rfl) ?_
  refine lv_iload hx hb dL_law_413 (lv_at hl 4 rfl) ?_
  refine lv_iconst (v := 3) hx hb dL_law_415 (by decide) ?_
  refine ln_iadd (x := ii) (y := 3) hx hb dL_law_416 ?_
  refine l_sld (v := v3) hx hb hX hbl hbA hS (j := ii + 3) (by omega) (by omega) h_3 dL_law_417 ?_
  have mrg426_1 : ∀ (H : Heap) (locs : List Loc), gW D a w H → va_S (gF B0) s.heap H locs → W p l e room_1 s m args below meth c H locs cs ss Q (F0 m 426 ls [.int (b2i (¬ v3 = 0)), .int r, .int q, .ref (a 0)]) := by
    intro H locs hG hS
    refine y_Si (As := [.ref (a 0), .int q, .int r, .int (b2i (¬ v3 = 0))]) (rest := []) (kL_join_p hl9 hA hsX0 ⟨hsP1, hsP2, hsP3, hsP4, hsP5, hsP6, hsP7, hsP8⟩ q r (¬ v3 = 0) hq) calL_join mlL_104 hx hb hml hown hts hB hG hK hS hXS ⟨by decide, by decide⟩ rfl hl.1 rfl (Nat.le_of_ble_eq_true rfl) dL_law_426 ⟨by show cs + 1 ≤ 1087; omega, by show ss + 6 ≤ 9297; omega⟩ (fun H locs hG hS => ?_)
    refine lv_istore (lv' := [(5, .int 1), (0, .ref b), (1, .ref (a 0)), (2, .ref (a 22)), (3, .ref (a 21)), (4, .int (nI ii))]) hx hb dL_law_429 hl (by decide) rfl (fun ls hl => ?_)
    refine lv_aload_n hx hb dL_law_431 rfl (lv_at hl 3 rfl) ?_
    refine lv_aload_n hx hb dL_law_432 rfl (lv_at hl 1 rfl) ?_
    refine lv_iload hx hb dL_law_433 (lv_at hl 5 rfl) ?_
    refine lv_iconst (v := 1) hx hb dL_law_435 (by decide) ?_
    refine ln_iadd (x := ii) (y := 1) hx hb dL_law_436 ?_
    refine l_sld (v := q) hx hb hX hbl hbA hS (j := ii + 1) (by omega) (by omega) h_1 dL_law_437 ?_
    refine lv_aload_n hx hb dL_law_438 rfl (lv_at hl 1 rfl) ?_
    refine lv_iload hx hb dL_law_439 (lv_at hl 5 rfl) ?_
    refine lv_iconst (v := 2) hx hb dL_law_441 (by decide) ?_
    refine ln_iadd (x := ii) (y := 2) hx hb dL_law_442 ?_
    refine l_sld (v := r) hx hb hX hbl hbA hS (j := ii + 2) (by omega) (by omega) h_2 dL_law_443 ?_
    refine lv_aload_n hx hb dL_law_444 rfl (lv_at hl 1 rfl) ?_
    refine lv_iload hx hb dL_law_445 (lv_at hl 5 rfl) ?_
    refine lv_iconst (v := 3) hx hb dL_law_447 (by decide) ?_
    refine ln_iadd (x := ii) (y := 3) hx hb dL_law_448 ?_
    refine l_sld (v := v3) hx hb hX hbl hbA hS (j := ii + 3) (by omega) (by omega) h_3 dL_law_449 ?_
    have mrg458_2 : ∀ (H : Heap) (locs : List Loc), gW D a w H → va_S (gF B0) s.heap H locs → W p l e room_1 s m args below meth c H locs (cs + 1) (ss + 6) Q (F0 m 458 ls [.int (b2i (¬ v3 = 0)), .int r, .int q, .ref (a 22)]) := by
      intro H locs hG hS
      refine g_Vv (i := 22) (As := [.int q, .int r, .int (b2i (¬ v3 = 0))]) (rest := []) (kD_join_p hA hsD22 ⟨hsDP23, hsDP24, hsDP25, hsDP26, hsDP27, hsDP28, hsDP29⟩ q r (¬ v3 = 0) hqD) calD_join cvD_join mlL_107 hx hb hml hown hts hB hG hK hS (by decide) hsD22 rfl ⟨by decide, by decide⟩ rfl hl.1 rfl (Nat.le_of_ble_eq_true rfl) dL_law_458 ⟨by show cs + 1 + 0 ≤ 1087; omega, by show ss + 6 + 0 ≤ 9297; omega⟩ (fun w4 H locs hp5 hG hS => ?_)
      obtain ⟨h6, ⟨h7, h8, h9, h10, h11, h12, h13⟩, hfr15⟩ := hp5
      have h16 : w4 0 = .inr (0, [.ref (a 1), .ref (a 9), .ref (a 12), .ref (a 15)]) := (hfr15 0 (by omega)).trans hsX0
      have h17 : w4 1 = .inr (1, [.ref (a 2), .ref (a 3), .ref (a 4), .ref (a 5), .ref (a 6), .ref (a 7), .ref (a 8), .int (nI n)]) := (hfr15 1 (by omega)).trans hsP1
      have h18 : w4 2 = .inl (k.2.1, 12, .inr (.inl up)) := (hfr15 2 (by omega)).trans hsP2
      have h19 : w4 3 = .inl (k.2.1, 12, .inr (.inl lo)) := (hfr15 3 (by omega)).trans hsP3
      have h20 : w4 4 = .inl (k.1, 12, .inl fa) := (hfr15 4 (by omega)).trans hsP4
      have h21 : w4 5 = .inl (k.1, 72, .inl we) := (hfr15 5 (by omega)).trans hsP5
      have h22 : w4 6 = .inl (k.1, 72, .inl ti) := (hfr15 6 (by omega)).trans hsP6
      have h23 : w4 7 = .inl (k.1, 12, .inl ri) := (hfr15 7 (by omega)).trans hsP7
      have h24 : w4 8 = .inl (k.2.2, 144, .inl jo) := (hfr15 8 (by omega)).trans hsP8
      refine lv_aload_n hx hb dL_law_461 rfl (lv_at hl 3 rfl) ?_
      refine g_ViR (i := 22) (As := []) (rest := []) (kD_thrown hA h6) calD_thrown cvD_thrown mlL_89 hx hb hml hown hts hB hG hK hS (by decide) h6 rfl ⟨by decide, by decide⟩ rfl hl.1 rfl (Nat.le_of_ble_eq_true rfl) dL_law_462 ⟨by show cs + 1 + 0 + 0 ≤ 1087; omega, by show ss + 6 + 0 + 0 ≤ 9297; omega⟩ (fun H locs hG hS => ?_)
      refine lv_iload hx hb dL_law_465 (lv_at hl 0 rfl) ?_
      refine lv_icmp_eq (tgt := 472) hx hb dL_law_467 (by decide) (fun _ => ?_) (fun h9 => absurd h9 (by decide))
      refine lv_goto (tgt := 1235) hx hb dL_law_472 (by decide) ?_
      exact kk _ _ _ _  h16 ⟨h17, h18, h19, h20, h21, h22, h23, h24⟩ h6 ⟨h7, h8, h9, h10, h11, h12, h13⟩  hfr15 hG hS (lv_sub hl [1, 2, 3, 4, 5] rfl)
    refine lv_if_eq (tgt := 457) hx hb dL_law_450 (by decide) (fun c26 => ?_) (fun c26 => ?_)
    · refine lv_iconst (v := 0) hx hb dL_law_457 (by decide) ?_
      have hz9 := mrg458_2 _ _ hG hS
      rw [b2i_f (P := ¬ v3 = 0) (by first | assumption | exact fun h9 => h9 (by assumption))] at hz9
      exact hz9
    · refine lv_iconst (v := 1) hx hb dL_law_453 (by decide) ?_
      refine lv_goto (tgt := 458) hx hb dL_law_454 (by decide) ?_
      have hz9 := mrg458_2 _ _ hG hS
      rw [b2i_t (P := ¬ v3 = 0) (by first | assumption | exact fun h9 => h9 (by assumption))] at hz9
      exact hz9
  refine lv_if_eq (tgt := 425) hx hb dL_law_418 (by decide) (fun c27 => ?_) (fun c27 => ?_)
  · refine lv_iconst (v := 0) hx hb dL_law_425 (by decide) ?_
    have hz9 := mrg426_1 _ _ hG hS
    rw [b2i_f (P := ¬ v3 = 0) (by first | assumption | exact fun h9 => h9 (by assumption))] at hz9
    exact hz9
  · refine lv_iconst (v := 1) hx hb dL_law_421 (by decide) ?_
    refine lv_goto (tgt := 426) hx hb dL_law_422 (by decide) ?_
    have hz9 := mrg426_1 _ _ hG hS
    rw [b2i_t (P := ¬ v3 = 0) (by first | assumption | exact fun h9 => h9 (by assumption))] at hz9
    exact hz9

set_option maxRecDepth 100000 in
set_option maxHeartbeats 4000000 in
theorem st_join_r {p : Program} {l : Launch} {e : Env} {s : State} {m : MethodId} {args : Array Value} {below : List Frame} {meth : Method} {c : Code} {Q : State → Prop} (hl9 : l.stackTraces = false) {D : va_G} {k : ClassId × ClassId × ClassId} {a : Nat → Nat} {B0 : Nat} {w : Nat → va_E} (hA : gA B0 a) (hx : p.tables.exec = Jvm.exec) (hb : c.code = cL_law) (hml : c.maxLocals = 8) (hown : s.vm.findClass RL = some m.cls) (hts : ∀ w ∈ TB, w.before args s = true) (hB : B0 ≤ s.heap.size) (hK : va_K D vwCl (gT k) s) (hXS : xS B0 s) {b Ls : Nat} {xs : Nat → Int32} (hX : va_X b Ls xs s s.heap) (hbl : b < s.heap.size) (hbA : ¬ gF B0 b) (hL9 : Ls ≤ 2048) {ii : Nat} (hi4 : ii + 4 ≤ Ls) {n : Nat} {up : Nat → Int64} {lo : Nat → Int64} {fa : Nat → Int32} {we : Nat → Int32} {ti : Nat → Int32} {ri : Nat → Int32} {jo : Nat → Int32} {th : Int32} {nr : Nat} {nf : Nat} {bw : Int32} {bd : Int32} {nt : Nat} {rd : Nat → Int32} {ma : Nat → Int32} {mb : Nat → Int32} {mc : Nat → Int32} {co : Nat → Int32} {jn : Nat → Int32} {ro : Nat → Int32} (hsX : sX k a w ) (hsP : sP k a w n up lo fa we ti ri jo) (hsD : sD k a w th n nr nf bw bd nt) (hsDP : sDP k a w rd ma mb mc co jn ro) (j : Nat) (q : Int32) (v3 : Int32) (h_1 : xs (ii + 1) = nI j) (h_2 : xs (ii + 2) = q) (h_3 : xs (ii + 3) = v3) (hj : j < n) (hn : n ≤ 12) (hq : ¬ (¬ q < 0 ∧ ¬ nI n ≤ q)) (hjD : j < n) (hnD : n ≤ 12) (hqD : ¬ rngI q 0 (nI n - 1)) {H : Heap} {locs : List Loc} {ls : Array Slot} (hG : gW D a w H) (hS : va_S (gF B0) s.heap H locs) (hl : lv_has ls 8 [(0, .ref b), (1, .ref (a 0)), (2, .ref (a 22)), (3, .ref (a 21)), (4, .int (nI ii))]) {cs ss : Nat} (hcs : cs + 1 ≤ 1087) (hss : ss + 6 ≤ 9297)
 (kk : ∀ (w' : Nat → va_E) (H' : Heap) (locs' : List Loc) (ls' : Array Slot) , sX k a w' → sP k a w' n up lo fa we ti ri jo → sD k a w' 1 n nr nf bw bd nt → sDP k a w' rd ma mb mc co jn ro → (∀ z, (z < 22 ∨ 29 < z) → w' z = w z) → gW D a w' H' → va_S (gF B0) s.heap H' locs' → lv_has ls' 8 [(0, .ref b), (1, .ref (a 0)), (2, .ref (a 22)), (3, .ref (a 21)), (4, .int (nI ii))] → W p l e room_1 s m args below meth c H' locs' (cs + 1) (ss + 6) Q (F0 m 1235 ls' [])) : W p l e room_1 s m args below meth c H locs cs ss Q (F0 m 399 ls []) := by
  have hsX0 := hsX
  obtain ⟨hsP1, hsP2, hsP3, hsP4, hsP5, hsP6, hsP7, hsP8⟩ := hsP
  have hsD22 := hsD
  obtain ⟨hsDP23, hsDP24, hsDP25, hsDP26, hsDP27, hsDP28, hsDP29⟩ := hsDP
  refine lv_aload_n hx hb dL_law_399 rfl (lv_at hl 1 rfl) ?_
  refine lv_aload_n hx hb dL_law_400 rfl (lv_at hl 0 rfl) ?_
  refine lv_iload hx hb dL_law_401 (lv_at hl 4 rfl) ?_
  refine lv_iconst (v := 1) hx hb dL_law_403 (by decide) ?_
  refine ln_iadd (x := ii) (y := 1) hx hb dL_law_404 ?_
  refine l_sld (v := nI j) hx hb hX hbl hbA hS (j := ii + 1) (by omega) (by omega) h_1 dL_law_405 ?_
  refine lv_aload_n hx hb dL_law_406 rfl (lv_at hl 0 rfl) ?_
  refine lv_iload hx hb dL_law_407 (lv_at hl 4 rfl) ?_
  refine lv_iconst (v := 2) hx hb dL_law_409 (by decide) ?_
  refine ln_iadd (x := ii) (y := 2) hx hb dL_law_410 ?_
  refine l_sld (v := q) hx hb hX hbl hbA hS (j := ii + 2) (by omega) (by omega) h_2 dL_law_411 ?_
  refine lv_aload_n hx hb dL_law_412 rfl (lv_at hl 0 rfl) ?_
  refine lv_iload hx hb dL_law_413 (lv_at hl 4 rfl) ?_
  refine lv_iconst (v := 3) hx hb dL_law_415 (by decide) ?_
  refine ln_iadd (x := ii) (y := 3) hx hb dL_law_416 ?_
  refine l_sld (v := v3) hx hb hX hbl hbA hS (j := ii + 3) (by omega) (by omega) h_3 dL_law_417 ?_
  have mrg426_1 : ∀ (H : Heap) (locs : List Loc), gW D a w H → va_S (gF B0) s.heap H locs → W p l e room_1 s m args below meth c H locs cs ss Q (F0 m 426 ls [.int (b2i (¬ v3 = 0)), .int q, .int (nI j), .ref (a 0)]) := by
    intro H locs hG hS
    refine y_Si (As := [.ref (a 0), .int (nI j), .int q, .int (b2i (¬ v3 = 0))]) (rest := []) (kL_join_r hl9 hA hsX0 ⟨hsP1, hsP2, hsP3, hsP4, hsP5, hsP6, hsP7, hsP8⟩ j q (¬ v3 = 0) hj hn hq) calL_join mlL_104 hx hb hml hown hts hB hG hK hS hXS ⟨by decide, by decide⟩ rfl hl.1 rfl (Nat.le_of_ble_eq_true rfl) dL_law_426 ⟨by show cs + 1 ≤ 1087; omega, by show ss + 6 ≤ 9297; omega⟩ (fun H locs hG hS => ?_)
    refine lv_istore (lv' := [(5, .int 1), (0, .ref b), (1, .ref (a 0)), (2, .ref (a 22)), (3, .ref (a 21)), (4, .int (nI ii))]) hx hb dL_law_429 hl (by decide) rfl (fun ls hl => ?_)
    refine lv_aload_n hx hb dL_law_431 rfl (lv_at hl 3 rfl) ?_
    refine lv_aload_n hx hb dL_law_432 rfl (lv_at hl 1 rfl) ?_
    refine lv_iload hx hb dL_law_433 (lv_at hl 5 rfl) ?_
    refine lv_iconst (v := 1) hx hb dL_law_435 (by decide) ?_
    refine ln_iadd (x := ii) (y := 1) hx hb dL_law_436 ?_
    refine l_sld (v := nI j) hx hb hX hbl hbA hS (j := ii + 1) (by omega) (by omega) h_1 dL_law_437 ?_
    refine lv_aload_n hx hb dL_law_438 rfl (lv_at hl 1 rfl) ?_
    refine lv_iload hx hb dL_law_439 (lv_at hl 5 rfl) ?_
    refine lv_iconst (v := 2) hx hb dL_law_441 (by decide) ?_
    refine ln_iadd (x := ii) (y := 2) hx hb dL_law_442 ?_
    refine l_sld (v := q) hx hb hX hbl hbA hS (j := ii + 2) (by omega) (by omega) h_2 dL_law_443 ?_
    refine lv_aload_n hx hb dL_law_444 rfl (lv_at hl 1 rfl) ?_
    refine lv_iload hx hb dL_law_445 (lv_at hl 5 rfl) ?_
    refine lv_iconst (v := 3) hx hb dL_law_447 (by decide) ?_
    refine ln_iadd (x := ii) (y := 3) hx hb dL_law_448 ?_
    refine l_sld (v := v3) hx hb hX hbl hbA hS (j := ii + 3) (by omega) (by omega) h_3 dL_law_449 ?_
    have mrg458_2 : ∀ (H : Heap) (locs : List Loc), gW D a w H → va_S (gF B0) s.heap H locs → W p l e room_1 s m args below meth c H locs (cs + 1) (ss + 6) Q (F0 m 458 ls [.int (b2i (¬ v3 = 0)), .int q, .int (nI j), .ref (a 22)]) := by
      intro H locs hG hS
      refine g_Vv (i := 22) (As := [.int (nI j), .int q, .int (b2i (¬ v3 = 0))]) (rest := []) (kD_join_r hA hsD22 ⟨hsDP23, hsDP24, hsDP25, hsDP26, hsDP27, hsDP28, hsDP29⟩ j q (¬ v3 = 0) hjD hnD hqD) calD_join cvD_join mlL_107 hx hb hml hown hts hB hG hK hS (by decide) hsD22 rfl ⟨by decide, by decide⟩ rfl hl.1 rfl (Nat.le_of_ble_eq_true rfl) dL_law_458 ⟨by show cs + 1 + 0 ≤ 1087; omega, by show ss + 6 + 0 ≤ 9297; omega⟩ (fun w4 H locs hp5 hG hS => ?_)
      obtain ⟨h6, ⟨h7, h8, h9, h10, h11, h12, h13⟩, hfr15⟩ := hp5
      have h16 : w4 0 = .inr (0, [.ref (a 1), .ref (a 9), .ref (a 12), .ref (a 15)]) := (hfr15 0 (by omega)).trans hsX0
      have h17 : w4 1 = .inr (1, [.ref (a 2), .ref (a 3), .ref (a 4), .ref (a 5), .ref (a 6), .ref (a 7), .ref (a 8), .int (nI n)]) := (hfr15 1 (by omega)).trans hsP1
      have h18 : w4 2 = .inl (k.2.1, 12, .inr (.inl up)) := (hfr15 2 (by omega)).trans hsP2
      have h19 : w4 3 = .inl (k.2.1, 12, .inr (.inl lo)) := (hfr15 3 (by omega)).trans hsP3
      have h20 : w4 4 = .inl (k.1, 12, .inl fa) := (hfr15 4 (by omega)).trans hsP4
      have h21 : w4 5 = .inl (k.1, 72, .inl we) := (hfr15 5 (by omega)).trans hsP5
      have h22 : w4 6 = .inl (k.1, 72, .inl ti) := (hfr15 6 (by omega)).trans hsP6
      have h23 : w4 7 = .inl (k.1, 12, .inl ri) := (hfr15 7 (by omega)).trans hsP7
      have h24 : w4 8 = .inl (k.2.2, 144, .inl jo) := (hfr15 8 (by omega)).trans hsP8
      refine lv_aload_n hx hb dL_law_461 rfl (lv_at hl 3 rfl) ?_
      refine g_ViR (i := 22) (As := []) (rest := []) (kD_thrown hA h6) calD_thrown cvD_thrown mlL_89 hx hb hml hown hts hB hG hK hS (by decide) h6 rfl ⟨by decide, by decide⟩ rfl hl.1 rfl (Nat.le_of_ble_eq_true rfl) dL_law_462 ⟨by show cs + 1 + 0 + 0 ≤ 1087; omega, by show ss + 6 + 0 + 0 ≤ 9297; omega⟩ (fun H locs hG hS => ?_)
      refine lv_iload hx hb dL_law_465 (lv_at hl 0 rfl) ?_
      refine lv_icmp_eq (tgt := 472) hx hb dL_law_467 (by decide) (fun _ => ?_) (fun h9 => absurd h9 (by decide))
      refine lv_goto (tgt := 1235) hx hb dL_law_472 (by decide) ?_
      exact kk _ _ _ _  h16 ⟨h17, h18, h19, h20, h21, h22, h23, h24⟩ h6 ⟨h7, h8, h9, h10, h11, h12, h13⟩  hfr15 hG hS (lv_sub hl [1, 2, 3, 4, 5] rfl)
    refine lv_if_eq (tgt := 457) hx hb dL_law_450 (by decide) (fun c26 => ?_) (fun c26 => ?_)
    · refine lv_iconst (v := 0) hx hb dL_law_457 (by decide) ?_
      have hz9 := mrg458_2 _ _ hG hS
      rw [b2i_f (P := ¬ v3 = 0) (by first | assumption | exact fun h9 => h9 (by assumption))] at hz9
      exact hz9
    · refine lv_iconst (v := 1) hx hb dL_law_453 (by decide) ?_
      refine lv_goto (tgt := 458) hx hb dL_law_454 (by decide) ?_
      have hz9 := mrg458_2 _ _ hG hS
      rw [b2i_t (P := ¬ v3 = 0) (by first | assumption | exact fun h9 => h9 (by assumption))] at hz9
      exact hz9
  refine lv_if_eq (tgt := 425) hx hb dL_law_418 (by decide) (fun c27 => ?_) (fun c27 => ?_)
  · refine lv_iconst (v := 0) hx hb dL_law_425 (by decide) ?_
    have hz9 := mrg426_1 _ _ hG hS
    rw [b2i_f (P := ¬ v3 = 0) (by first | assumption | exact fun h9 => h9 (by assumption))] at hz9
    exact hz9
  · refine lv_iconst (v := 1) hx hb dL_law_421 (by decide) ?_
    refine lv_goto (tgt := 426) hx hb dL_law_422 (by decide) ?_
    have hz9 := mrg426_1 _ _ hG hS
    rw [b2i_t (P := ¬ v3 = 0) (by first | assumption | exact fun h9 => h9 (by assumption))] at hz9
    exact hz9

set_option maxRecDepth 100000 in
set_option maxHeartbeats 4000000 in
theorem st_join_s {p : Program} {l : Launch} {e : Env} {s : State} {m : MethodId} {args : Array Value} {below : List Frame} {meth : Method} {c : Code} {Q : State → Prop} (hl9 : l.stackTraces = false) {D : va_G} {k : ClassId × ClassId × ClassId} {a : Nat → Nat} {B0 : Nat} {w : Nat → va_E} (hA : gA B0 a) (hx : p.tables.exec = Jvm.exec) (hb : c.code = cL_law) (hml : c.maxLocals = 8) (hown : s.vm.findClass RL = some m.cls) (hts : ∀ w ∈ TB, w.before args s = true) (hB : B0 ≤ s.heap.size) (hK : va_K D vwCl (gT k) s) (hXS : xS B0 s) {b Ls : Nat} {xs : Nat → Int32} (hX : va_X b Ls xs s s.heap) (hbl : b < s.heap.size) (hbA : ¬ gF B0 b) (hL9 : Ls ≤ 2048) {ii : Nat} (hi4 : ii + 4 ≤ Ls) {n : Nat} {up : Nat → Int64} {lo : Nat → Int64} {fa : Nat → Int32} {we : Nat → Int32} {ti : Nat → Int32} {ri : Nat → Int32} {jo : Nat → Int32} {th : Int32} {nr : Nat} {nf : Nat} {bw : Int32} {bd : Int32} {nt : Nat} {rd : Nat → Int32} {ma : Nat → Int32} {mb : Nat → Int32} {mc : Nat → Int32} {co : Nat → Int32} {jn : Nat → Int32} {ro : Nat → Int32} (hsX : sX k a w ) (hsP : sP k a w n up lo fa we ti ri jo) (hsD : sD k a w th n nr nf bw bd nt) (hsDP : sDP k a w rd ma mb mc co jn ro) (j : Nat) (i : Nat) (v3 : Int32) (h_1 : xs (ii + 1) = nI j) (h_2 : xs (ii + 2) = nI i) (h_3 : xs (ii + 3) = v3) (hj : j < n) (hn : n ≤ 12) (hi : i < n) (hji : j = i) (hjD : j < n) (hnD : n ≤ 12) (hiD : i < n) (hjiD : j = i) {H : Heap} {locs : List Loc} {ls : Array Slot} (hG : gW D a w H) (hS : va_S (gF B0) s.heap H locs) (hl : lv_has ls 8 [(0, .ref b), (1, .ref (a 0)), (2, .ref (a 22)), (3, .ref (a 21)), (4, .int (nI ii))]) {cs ss : Nat} (hcs : cs + 1 ≤ 1087) (hss : ss + 6 ≤ 9297)
 (kk : ∀ (w' : Nat → va_E) (H' : Heap) (locs' : List Loc) (ls' : Array Slot) , sX k a w' → sP k a w' n up lo fa we ti ri jo → sD k a w' 1 n nr nf bw bd nt → sDP k a w' rd ma mb mc co jn ro → (∀ z, (z < 22 ∨ 29 < z) → w' z = w z) → gW D a w' H' → va_S (gF B0) s.heap H' locs' → lv_has ls' 8 [(0, .ref b), (1, .ref (a 0)), (2, .ref (a 22)), (3, .ref (a 21)), (4, .int (nI ii))] → W p l e room_1 s m args below meth c H' locs' (cs + 1) (ss + 6) Q (F0 m 1235 ls' [])) : W p l e room_1 s m args below meth c H locs cs ss Q (F0 m 399 ls []) := by
  have hsX0 := hsX
  obtain ⟨hsP1, hsP2, hsP3, hsP4, hsP5, hsP6, hsP7, hsP8⟩ := hsP
  have hsD22 := hsD
  obtain ⟨hsDP23, hsDP24, hsDP25, hsDP26, hsDP27, hsDP28, hsDP29⟩ := hsDP
  refine lv_aload_n hx hb dL_law_399 rfl (lv_at hl 1 rfl) ?_
  refine lv_aload_n hx hb dL_law_400 rfl (lv_at hl 0 rfl) ?_
  refine lv_iload hx hb dL_law_401 (lv_at hl 4 rfl) ?_
  refine lv_iconst (v := 1) hx hb dL_law_403 (by decide) ?_
  refine ln_iadd (x := ii) (y := 1) hx hb dL_law_404 ?_
  refine l_sld (v := nI j) hx hb hX hbl hbA hS (j := ii + 1) (by omega) (by omega) h_1 dL_law_405 ?_
  refine lv_aload_n hx hb dL_law_406 rfl (lv_at hl 0 rfl) ?_
  refine lv_iload hx hb dL_law_407 (lv_at hl 4 rfl) ?_
  refine lv_iconst (v := 2) hx hb dL_law_409 (by decide) ?_
  refine ln_iadd (x := ii) (y := 2) hx hb dL_law_410 ?_
  refine l_sld (v := nI i) hx hb hX hbl hbA hS (j := ii + 2) (by omega) (by omega) h_2 dL_law_411 ?_
  refine lv_aload_n hx hb dL_law_412 rfl (lv_at hl 0 rfl) ?_
  refine lv_iload hx hb dL_law_413 (lv_at hl 4 rfl) ?_
  refine lv_iconst (v := 3) hx hb dL_law_415 (by decide) ?_
  refine ln_iadd (x := ii) (y := 3) hx hb dL_law_416 ?_
  refine l_sld (v := v3) hx hb hX hbl hbA hS (j := ii + 3) (by omega) (by omega) h_3 dL_law_417 ?_
  have mrg426_1 : ∀ (H : Heap) (locs : List Loc), gW D a w H → va_S (gF B0) s.heap H locs → W p l e room_1 s m args below meth c H locs cs ss Q (F0 m 426 ls [.int (b2i (¬ v3 = 0)), .int (nI i), .int (nI j), .ref (a 0)]) := by
    intro H locs hG hS
    refine y_Si (As := [.ref (a 0), .int (nI j), .int (nI i), .int (b2i (¬ v3 = 0))]) (rest := []) (kL_join_s hl9 hA hsX0 ⟨hsP1, hsP2, hsP3, hsP4, hsP5, hsP6, hsP7, hsP8⟩ j i (¬ v3 = 0) hj hn hi hji) calL_join mlL_104 hx hb hml hown hts hB hG hK hS hXS ⟨by decide, by decide⟩ rfl hl.1 rfl (Nat.le_of_ble_eq_true rfl) dL_law_426 ⟨by show cs + 1 ≤ 1087; omega, by show ss + 6 ≤ 9297; omega⟩ (fun H locs hG hS => ?_)
    refine lv_istore (lv' := [(5, .int 1), (0, .ref b), (1, .ref (a 0)), (2, .ref (a 22)), (3, .ref (a 21)), (4, .int (nI ii))]) hx hb dL_law_429 hl (by decide) rfl (fun ls hl => ?_)
    refine lv_aload_n hx hb dL_law_431 rfl (lv_at hl 3 rfl) ?_
    refine lv_aload_n hx hb dL_law_432 rfl (lv_at hl 1 rfl) ?_
    refine lv_iload hx hb dL_law_433 (lv_at hl 5 rfl) ?_
    refine lv_iconst (v := 1) hx hb dL_law_435 (by decide) ?_
    refine ln_iadd (x := ii) (y := 1) hx hb dL_law_436 ?_
    refine l_sld (v := nI j) hx hb hX hbl hbA hS (j := ii + 1) (by omega) (by omega) h_1 dL_law_437 ?_
    refine lv_aload_n hx hb dL_law_438 rfl (lv_at hl 1 rfl) ?_
    refine lv_iload hx hb dL_law_439 (lv_at hl 5 rfl) ?_
    refine lv_iconst (v := 2) hx hb dL_law_441 (by decide) ?_
    refine ln_iadd (x := ii) (y := 2) hx hb dL_law_442 ?_
    refine l_sld (v := nI i) hx hb hX hbl hbA hS (j := ii + 2) (by omega) (by omega) h_2 dL_law_443 ?_
    refine lv_aload_n hx hb dL_law_444 rfl (lv_at hl 1 rfl) ?_
    refine lv_iload hx hb dL_law_445 (lv_at hl 5 rfl) ?_
    refine lv_iconst (v := 3) hx hb dL_law_447 (by decide) ?_
    refine ln_iadd (x := ii) (y := 3) hx hb dL_law_448 ?_
    refine l_sld (v := v3) hx hb hX hbl hbA hS (j := ii + 3) (by omega) (by omega) h_3 dL_law_449 ?_
    have mrg458_2 : ∀ (H : Heap) (locs : List Loc), gW D a w H → va_S (gF B0) s.heap H locs → W p l e room_1 s m args below meth c H locs (cs + 1) (ss + 6) Q (F0 m 458 ls [.int (b2i (¬ v3 = 0)), .int (nI i), .int (nI j), .ref (a 22)]) := by
      intro H locs hG hS
      refine g_Vv (i := 22) (As := [.int (nI j), .int (nI i), .int (b2i (¬ v3 = 0))]) (rest := []) (kD_join_s hA hsD22 ⟨hsDP23, hsDP24, hsDP25, hsDP26, hsDP27, hsDP28, hsDP29⟩ j i (¬ v3 = 0) hjD hnD hiD hjiD) calD_join cvD_join mlL_107 hx hb hml hown hts hB hG hK hS (by decide) hsD22 rfl ⟨by decide, by decide⟩ rfl hl.1 rfl (Nat.le_of_ble_eq_true rfl) dL_law_458 ⟨by show cs + 1 + 0 ≤ 1087; omega, by show ss + 6 + 0 ≤ 9297; omega⟩ (fun w4 H locs hp5 hG hS => ?_)
      obtain ⟨h6, ⟨h7, h8, h9, h10, h11, h12, h13⟩, hfr15⟩ := hp5
      have h16 : w4 0 = .inr (0, [.ref (a 1), .ref (a 9), .ref (a 12), .ref (a 15)]) := (hfr15 0 (by omega)).trans hsX0
      have h17 : w4 1 = .inr (1, [.ref (a 2), .ref (a 3), .ref (a 4), .ref (a 5), .ref (a 6), .ref (a 7), .ref (a 8), .int (nI n)]) := (hfr15 1 (by omega)).trans hsP1
      have h18 : w4 2 = .inl (k.2.1, 12, .inr (.inl up)) := (hfr15 2 (by omega)).trans hsP2
      have h19 : w4 3 = .inl (k.2.1, 12, .inr (.inl lo)) := (hfr15 3 (by omega)).trans hsP3
      have h20 : w4 4 = .inl (k.1, 12, .inl fa) := (hfr15 4 (by omega)).trans hsP4
      have h21 : w4 5 = .inl (k.1, 72, .inl we) := (hfr15 5 (by omega)).trans hsP5
      have h22 : w4 6 = .inl (k.1, 72, .inl ti) := (hfr15 6 (by omega)).trans hsP6
      have h23 : w4 7 = .inl (k.1, 12, .inl ri) := (hfr15 7 (by omega)).trans hsP7
      have h24 : w4 8 = .inl (k.2.2, 144, .inl jo) := (hfr15 8 (by omega)).trans hsP8
      refine lv_aload_n hx hb dL_law_461 rfl (lv_at hl 3 rfl) ?_
      refine g_ViR (i := 22) (As := []) (rest := []) (kD_thrown hA h6) calD_thrown cvD_thrown mlL_89 hx hb hml hown hts hB hG hK hS (by decide) h6 rfl ⟨by decide, by decide⟩ rfl hl.1 rfl (Nat.le_of_ble_eq_true rfl) dL_law_462 ⟨by show cs + 1 + 0 + 0 ≤ 1087; omega, by show ss + 6 + 0 + 0 ≤ 9297; omega⟩ (fun H locs hG hS => ?_)
      refine lv_iload hx hb dL_law_465 (lv_at hl 0 rfl) ?_
      refine lv_icmp_eq (tgt := 472) hx hb dL_law_467 (by decide) (fun _ => ?_) (fun h9 => absurd h9 (by decide))
      refine lv_goto (tgt := 1235) hx hb dL_law_472 (by decide) ?_
      exact kk _ _ _ _  h16 ⟨h17, h18, h19, h20, h21, h22, h23, h24⟩ h6 ⟨h7, h8, h9, h10, h11, h12, h13⟩  hfr15 hG hS (lv_sub hl [1, 2, 3, 4, 5] rfl)
    refine lv_if_eq (tgt := 457) hx hb dL_law_450 (by decide) (fun c26 => ?_) (fun c26 => ?_)
    · refine lv_iconst (v := 0) hx hb dL_law_457 (by decide) ?_
      have hz9 := mrg458_2 _ _ hG hS
      rw [b2i_f (P := ¬ v3 = 0) (by first | assumption | exact fun h9 => h9 (by assumption))] at hz9
      exact hz9
    · refine lv_iconst (v := 1) hx hb dL_law_453 (by decide) ?_
      refine lv_goto (tgt := 458) hx hb dL_law_454 (by decide) ?_
      have hz9 := mrg458_2 _ _ hG hS
      rw [b2i_t (P := ¬ v3 = 0) (by first | assumption | exact fun h9 => h9 (by assumption))] at hz9
      exact hz9
  refine lv_if_eq (tgt := 425) hx hb dL_law_418 (by decide) (fun c27 => ?_) (fun c27 => ?_)
  · refine lv_iconst (v := 0) hx hb dL_law_425 (by decide) ?_
    have hz9 := mrg426_1 _ _ hG hS
    rw [b2i_f (P := ¬ v3 = 0) (by first | assumption | exact fun h9 => h9 (by assumption))] at hz9
    exact hz9
  · refine lv_iconst (v := 1) hx hb dL_law_421 (by decide) ?_
    refine lv_goto (tgt := 426) hx hb dL_law_422 (by decide) ?_
    have hz9 := mrg426_1 _ _ hG hS
    rw [b2i_t (P := ¬ v3 = 0) (by first | assumption | exact fun h9 => h9 (by assumption))] at hz9
    exact hz9

set_option maxRecDepth 100000 in
set_option maxHeartbeats 4000000 in
theorem st_join_e {p : Program} {l : Launch} {e : Env} {s : State} {m : MethodId} {args : Array Value} {below : List Frame} {meth : Method} {c : Code} {Q : State → Prop} (hl9 : l.stackTraces = false) {D : va_G} {k : ClassId × ClassId × ClassId} {a : Nat → Nat} {B0 : Nat} {w : Nat → va_E} (hA : gA B0 a) (hx : p.tables.exec = Jvm.exec) (hb : c.code = cL_law) (hml : c.maxLocals = 8) (hown : s.vm.findClass RL = some m.cls) (hts : ∀ w ∈ TB, w.before args s = true) (hB : B0 ≤ s.heap.size) (hK : va_K D vwCl (gT k) s) (hXS : xS B0 s) {b Ls : Nat} {xs : Nat → Int32} (hX : va_X b Ls xs s s.heap) (hbl : b < s.heap.size) (hbA : ¬ gF B0 b) (hL9 : Ls ≤ 2048) {ii : Nat} (hi4 : ii + 4 ≤ Ls) {n : Nat} {up : Nat → Int64} {lo : Nat → Int64} {fa : Nat → Int32} {we : Nat → Int32} {ti : Nat → Int32} {ri : Nat → Int32} {jo : Nat → Int32} {th : Int32} {nr : Nat} {nf : Nat} {bw : Int32} {bd : Int32} {nt : Nat} {rd : Nat → Int32} {ma : Nat → Int32} {mb : Nat → Int32} {mc : Nat → Int32} {co : Nat → Int32} {jn : Nat → Int32} {ro : Nat → Int32} (hsX : sX k a w ) (hsP : sP k a w n up lo fa we ti ri jo) (hsD : sD k a w th n nr nf bw bd nt) (hsDP : sDP k a w rd ma mb mc co jn ro) (j : Nat) (i : Nat) (v3 : Int32) (h_1 : xs (ii + 1) = nI j) (h_2 : xs (ii + 2) = nI i) (h_3 : xs (ii + 3) = v3) (hj : j < n) (hn : n ≤ 12) (hi : i < n) (hji : ¬ j = i) (hjo : ∀ z, z < 144 → narrow .boolean (.int (jo z)) = .int (jo z)) (he : jo (j * 12 + i) = b2i (¬ v3 = 0)) (hjD : j < n) (hnD : n ≤ 12) (hiD : i < n) (hjiD : ¬ j = i) (heD : (jn j >>> (nI i &&& 31)) &&& 1 = b2i (¬ v3 = 0)) {H : Heap} {locs : List Loc} {ls : Array Slot} (hG : gW D a w H) (hS : va_S (gF B0) s.heap H locs) (hl : lv_has ls 8 [(0, .ref b), (1, .ref (a 0)), (2, .ref (a 22)), (3, .ref (a 21)), (4, .int (nI ii))]) {cs ss : Nat} (hcs : cs + 1 ≤ 1087) (hss : ss + 6 ≤ 9297)
 (kk : ∀ (w' : Nat → va_E) (H' : Heap) (locs' : List Loc) (ls' : Array Slot) , sX k a w' → sP k a w' n up lo fa we ti ri jo → sD k a w' 2 n nr nf bw bd nt → sDP k a w' rd ma mb mc co jn ro → (∀ z, (z < 22 ∨ 29 < z) → w' z = w z) → gW D a w' H' → va_S (gF B0) s.heap H' locs' → lv_has ls' 8 [(0, .ref b), (1, .ref (a 0)), (2, .ref (a 22)), (3, .ref (a 21)), (4, .int (nI ii))] → W p l e room_1 s m args below meth c H' locs' (cs + 1) (ss + 6) Q (F0 m 1235 ls' [])) : W p l e room_1 s m args below meth c H locs cs ss Q (F0 m 399 ls []) := by
  have hsX0 := hsX
  obtain ⟨hsP1, hsP2, hsP3, hsP4, hsP5, hsP6, hsP7, hsP8⟩ := hsP
  have hsD22 := hsD
  obtain ⟨hsDP23, hsDP24, hsDP25, hsDP26, hsDP27, hsDP28, hsDP29⟩ := hsDP
  refine lv_aload_n hx hb dL_law_399 rfl (lv_at hl 1 rfl) ?_
  refine lv_aload_n hx hb dL_law_400 rfl (lv_at hl 0 rfl) ?_
  refine lv_iload hx hb dL_law_401 (lv_at hl 4 rfl) ?_
  refine lv_iconst (v := 1) hx hb dL_law_403 (by decide) ?_
  refine ln_iadd (x := ii) (y := 1) hx hb dL_law_404 ?_
  refine l_sld (v := nI j) hx hb hX hbl hbA hS (j := ii + 1) (by omega) (by omega) h_1 dL_law_405 ?_
  refine lv_aload_n hx hb dL_law_406 rfl (lv_at hl 0 rfl) ?_
  refine lv_iload hx hb dL_law_407 (lv_at hl 4 rfl) ?_
  refine lv_iconst (v := 2) hx hb dL_law_409 (by decide) ?_
  refine ln_iadd (x := ii) (y := 2) hx hb dL_law_410 ?_
  refine l_sld (v := nI i) hx hb hX hbl hbA hS (j := ii + 2) (by omega) (by omega) h_2 dL_law_411 ?_
  refine lv_aload_n hx hb dL_law_412 rfl (lv_at hl 0 rfl) ?_
  refine lv_iload hx hb dL_law_413 (lv_at hl 4 rfl) ?_
  refine lv_iconst (v := 3) hx hb dL_law_415 (by decide) ?_
  refine ln_iadd (x := ii) (y := 3) hx hb dL_law_416 ?_
  refine l_sld (v := v3) hx hb hX hbl hbA hS (j := ii + 3) (by omega) (by omega) h_3 dL_law_417 ?_
  have mrg426_1 : ∀ (H : Heap) (locs : List Loc), gW D a w H → va_S (gF B0) s.heap H locs → W p l e room_1 s m args below meth c H locs cs ss Q (F0 m 426 ls [.int (b2i (¬ v3 = 0)), .int (nI i), .int (nI j), .ref (a 0)]) := by
    intro H locs hG hS
    refine y_Si (As := [.ref (a 0), .int (nI j), .int (nI i), .int (b2i (¬ v3 = 0))]) (rest := []) (kL_join_e hl9 hA hsX0 ⟨hsP1, hsP2, hsP3, hsP4, hsP5, hsP6, hsP7, hsP8⟩ j i (¬ v3 = 0) hj hn hi hji hjo he) calL_join mlL_104 hx hb hml hown hts hB hG hK hS hXS ⟨by decide, by decide⟩ rfl hl.1 rfl (Nat.le_of_ble_eq_true rfl) dL_law_426 ⟨by show cs + 1 ≤ 1087; omega, by show ss + 6 ≤ 9297; omega⟩ (fun H locs hG hS => ?_)
    refine lv_istore (lv' := [(5, .int 2), (0, .ref b), (1, .ref (a 0)), (2, .ref (a 22)), (3, .ref (a 21)), (4, .int (nI ii))]) hx hb dL_law_429 hl (by decide) rfl (fun ls hl => ?_)
    refine lv_aload_n hx hb dL_law_431 rfl (lv_at hl 3 rfl) ?_
    refine lv_aload_n hx hb dL_law_432 rfl (lv_at hl 1 rfl) ?_
    refine lv_iload hx hb dL_law_433 (lv_at hl 5 rfl) ?_
    refine lv_iconst (v := 1) hx hb dL_law_435 (by decide) ?_
    refine ln_iadd (x := ii) (y := 1) hx hb dL_law_436 ?_
    refine l_sld (v := nI j) hx hb hX hbl hbA hS (j := ii + 1) (by omega) (by omega) h_1 dL_law_437 ?_
    refine lv_aload_n hx hb dL_law_438 rfl (lv_at hl 1 rfl) ?_
    refine lv_iload hx hb dL_law_439 (lv_at hl 5 rfl) ?_
    refine lv_iconst (v := 2) hx hb dL_law_441 (by decide) ?_
    refine ln_iadd (x := ii) (y := 2) hx hb dL_law_442 ?_
    refine l_sld (v := nI i) hx hb hX hbl hbA hS (j := ii + 2) (by omega) (by omega) h_2 dL_law_443 ?_
    refine lv_aload_n hx hb dL_law_444 rfl (lv_at hl 1 rfl) ?_
    refine lv_iload hx hb dL_law_445 (lv_at hl 5 rfl) ?_
    refine lv_iconst (v := 3) hx hb dL_law_447 (by decide) ?_
    refine ln_iadd (x := ii) (y := 3) hx hb dL_law_448 ?_
    refine l_sld (v := v3) hx hb hX hbl hbA hS (j := ii + 3) (by omega) (by omega) h_3 dL_law_449 ?_
    have mrg458_2 : ∀ (H : Heap) (locs : List Loc), gW D a w H → va_S (gF B0) s.heap H locs → W p l e room_1 s m args below meth c H locs (cs + 1) (ss + 6) Q (F0 m 458 ls [.int (b2i (¬ v3 = 0)), .int (nI i), .int (nI j), .ref (a 22)]) := by
      intro H locs hG hS
      refine g_Vv (i := 22) (As := [.int (nI j), .int (nI i), .int (b2i (¬ v3 = 0))]) (rest := []) (kD_join_e hA hsD22 ⟨hsDP23, hsDP24, hsDP25, hsDP26, hsDP27, hsDP28, hsDP29⟩ j i (¬ v3 = 0) hjD hnD hiD hjiD heD) calD_join cvD_join mlL_107 hx hb hml hown hts hB hG hK hS (by decide) hsD22 rfl ⟨by decide, by decide⟩ rfl hl.1 rfl (Nat.le_of_ble_eq_true rfl) dL_law_458 ⟨by show cs + 1 + 0 ≤ 1087; omega, by show ss + 6 + 0 ≤ 9297; omega⟩ (fun w4 H locs hp5 hG hS => ?_)
      obtain ⟨h6, ⟨h7, h8, h9, h10, h11, h12, h13⟩, hfr15⟩ := hp5
      have h16 : w4 0 = .inr (0, [.ref (a 1), .ref (a 9), .ref (a 12), .ref (a 15)]) := (hfr15 0 (by omega)).trans hsX0
      have h17 : w4 1 = .inr (1, [.ref (a 2), .ref (a 3), .ref (a 4), .ref (a 5), .ref (a 6), .ref (a 7), .ref (a 8), .int (nI n)]) := (hfr15 1 (by omega)).trans hsP1
      have h18 : w4 2 = .inl (k.2.1, 12, .inr (.inl up)) := (hfr15 2 (by omega)).trans hsP2
      have h19 : w4 3 = .inl (k.2.1, 12, .inr (.inl lo)) := (hfr15 3 (by omega)).trans hsP3
      have h20 : w4 4 = .inl (k.1, 12, .inl fa) := (hfr15 4 (by omega)).trans hsP4
      have h21 : w4 5 = .inl (k.1, 72, .inl we) := (hfr15 5 (by omega)).trans hsP5
      have h22 : w4 6 = .inl (k.1, 72, .inl ti) := (hfr15 6 (by omega)).trans hsP6
      have h23 : w4 7 = .inl (k.1, 12, .inl ri) := (hfr15 7 (by omega)).trans hsP7
      have h24 : w4 8 = .inl (k.2.2, 144, .inl jo) := (hfr15 8 (by omega)).trans hsP8
      refine lv_aload_n hx hb dL_law_461 rfl (lv_at hl 3 rfl) ?_
      refine g_ViR (i := 22) (As := []) (rest := []) (kD_thrown hA h6) calD_thrown cvD_thrown mlL_89 hx hb hml hown hts hB hG hK hS (by decide) h6 rfl ⟨by decide, by decide⟩ rfl hl.1 rfl (Nat.le_of_ble_eq_true rfl) dL_law_462 ⟨by show cs + 1 + 0 + 0 ≤ 1087; omega, by show ss + 6 + 0 + 0 ≤ 9297; omega⟩ (fun H locs hG hS => ?_)
      refine lv_iload hx hb dL_law_465 (lv_at hl 0 rfl) ?_
      refine lv_icmp_eq (tgt := 472) hx hb dL_law_467 (by decide) (fun _ => ?_) (fun h9 => absurd h9 (by decide))
      refine lv_goto (tgt := 1235) hx hb dL_law_472 (by decide) ?_
      exact kk _ _ _ _  h16 ⟨h17, h18, h19, h20, h21, h22, h23, h24⟩ h6 ⟨h7, h8, h9, h10, h11, h12, h13⟩  hfr15 hG hS (lv_sub hl [1, 2, 3, 4, 5] rfl)
    refine lv_if_eq (tgt := 457) hx hb dL_law_450 (by decide) (fun c26 => ?_) (fun c26 => ?_)
    · refine lv_iconst (v := 0) hx hb dL_law_457 (by decide) ?_
      have hz9 := mrg458_2 _ _ hG hS
      rw [b2i_f (P := ¬ v3 = 0) (by first | assumption | exact fun h9 => h9 (by assumption))] at hz9
      exact hz9
    · refine lv_iconst (v := 1) hx hb dL_law_453 (by decide) ?_
      refine lv_goto (tgt := 458) hx hb dL_law_454 (by decide) ?_
      have hz9 := mrg458_2 _ _ hG hS
      rw [b2i_t (P := ¬ v3 = 0) (by first | assumption | exact fun h9 => h9 (by assumption))] at hz9
      exact hz9
  refine lv_if_eq (tgt := 425) hx hb dL_law_418 (by decide) (fun c27 => ?_) (fun c27 => ?_)
  · refine lv_iconst (v := 0) hx hb dL_law_425 (by decide) ?_
    have hz9 := mrg426_1 _ _ hG hS
    rw [b2i_f (P := ¬ v3 = 0) (by first | assumption | exact fun h9 => h9 (by assumption))] at hz9
    exact hz9
  · refine lv_iconst (v := 1) hx hb dL_law_421 (by decide) ?_
    refine lv_goto (tgt := 426) hx hb dL_law_422 (by decide) ?_
    have hz9 := mrg426_1 _ _ hG hS
    rw [b2i_t (P := ¬ v3 = 0) (by first | assumption | exact fun h9 => h9 (by assumption))] at hz9
    exact hz9

set_option maxRecDepth 100000 in
set_option maxHeartbeats 4000000 in
theorem st_order_k {p : Program} {l : Launch} {e : Env} {s : State} {m : MethodId} {args : Array Value} {below : List Frame} {meth : Method} {c : Code} {Q : State → Prop} (hl9 : l.stackTraces = false) {D : va_G} {k : ClassId × ClassId × ClassId} {a : Nat → Nat} {B0 : Nat} {w : Nat → va_E} (hA : gA B0 a) (hx : p.tables.exec = Jvm.exec) (hb : c.code = cL_law) (hml : c.maxLocals = 8) (hown : s.vm.findClass RL = some m.cls) (hts : ∀ w ∈ TB, w.before args s = true) (hB : B0 ≤ s.heap.size) (hK : va_K D vwCl (gT k) s) (hXS : xS B0 s) {b Ls : Nat} {xs : Nat → Int32} (hX : va_X b Ls xs s s.heap) (hbl : b < s.heap.size) (hbA : ¬ gF B0 b) (hL9 : Ls ≤ 2048) {ii : Nat} (hi4 : ii + 4 ≤ Ls) {n : Nat} {up : Nat → Int64} {lo : Nat → Int64} {fa : Nat → Int32} {we : Nat → Int32} {ti : Nat → Int32} {ri : Nat → Int32} {jo : Nat → Int32} {oo : Nat → Int64} {th : Int32} {nr : Nat} {nf : Nat} {bw : Int32} {bd : Int32} {nt : Nat} {rd : Nat → Int32} {ma : Nat → Int32} {mb : Nat → Int32} {mc : Nat → Int32} {co : Nat → Int32} {jn : Nat → Int32} {ro : Nat → Int32} (hsX : sX k a w ) (hsP : sP k a w n up lo fa we ti ri jo) (hsO : sO k a w oo) (hsD : sD k a w th n nr nf bw bd nt) (hsDP : sDP k a w rd ma mb mc co jn ro) (q : Int32) (h_1 : xs (ii + 1) = q) (hq : ¬ q < 0) (hn : n ≤ 12) (hqD : ¬ q < 0) (hnD : n ≤ 12) (hval : (fstF (rOrdP up lo n q) n 0).toInt64 = (fstF (mOrdP rd ma mb mc co n q) n 0).toInt64) {H : Heap} {locs : List Loc} {ls : Array Slot} (hG : gW D a w H) (hS : va_S (gF B0) s.heap H locs) (hl : lv_has ls 8 [(0, .ref b), (1, .ref (a 0)), (2, .ref (a 22)), (3, .ref (a 21)), (4, .int (nI ii))]) {cs ss : Nat} (hcs : cs + 1 ≤ 1087) (hss : ss + 6 ≤ 9297)
 (kk : ∀ (w' : Nat → va_E) (H' : Heap) (locs' : List Loc) (ls' : Array Slot) , sX k a w' → sP k a w' n up lo fa we ti ri jo → sO k a w' (vp_updL oo 0 ((fstF (rOrdP up lo n q) n 0).toInt64)) → sD k a w' 0 n nr nf bw bd nt → sDP k a w' rd ma mb mc co jn ro → (∀ z, (z < 21 ∨ 21 < z) ∧ (z < 22 ∨ 29 < z) → w' z = w z) → gW D a w' H' → va_S (gF B0) s.heap H' locs' → lv_has ls' 8 [(0, .ref b), (1, .ref (a 0)), (2, .ref (a 22)), (3, .ref (a 21)), (4, .int (nI ii))] → W p l e room_1 s m args below meth c H' locs' (cs + 0) (ss + 0) Q (F0 m 1235 ls' [])) : W p l e room_1 s m args below meth c H locs cs ss Q (F0 m 475 ls []) := by
  have hsX0 := hsX
  obtain ⟨hsP1, hsP2, hsP3, hsP4, hsP5, hsP6, hsP7, hsP8⟩ := hsP
  have hsO21 := hsO
  have hsD22 := hsD
  obtain ⟨hsDP23, hsDP24, hsDP25, hsDP26, hsDP27, hsDP28, hsDP29⟩ := hsDP
  refine lv_aload_n hx hb dL_law_475 rfl (lv_at hl 1 rfl) ?_
  refine lv_aload_n hx hb dL_law_476 rfl (lv_at hl 0 rfl) ?_
  refine lv_iload hx hb dL_law_477 (lv_at hl 4 rfl) ?_
  refine lv_iconst (v := 1) hx hb dL_law_479 (by decide) ?_
  refine ln_iadd (x := ii) (y := 1) hx hb dL_law_480 ?_
  refine l_sld (v := q) hx hb hX hbl hbA hS (j := ii + 1) (by omega) (by omega) h_1 dL_law_481 ?_
  refine lv_aload_n hx hb dL_law_482 rfl (lv_at hl 3 rfl) ?_
  refine h_Si (As := [.ref (a 0), .int q, .ref (a 21)]) (rest := []) (kL_order_k hA hsX0 ⟨hsP1, hsP2, hsP3, hsP4, hsP5, hsP6, hsP7, hsP8⟩ hsO21 q hq hn) calL_order mlL_108 hx hb hml hown hts hB hG hK hS ⟨by decide, by decide⟩ rfl hl.1 rfl (Nat.le_of_ble_eq_true rfl) dL_law_483 ⟨by show cs + 0 ≤ 1087; omega, by show ss + 0 ≤ 9297; omega⟩ (fun r1 w2 H locs hp3 hG hS => ?_)
  obtain ⟨er5, h4, hfr6⟩ := hp3
  have h7 : w2 0 = .inr (0, [.ref (a 1), .ref (a 9), .ref (a 12), .ref (a 15)]) := (hfr6 0 (by omega)).trans hsX0
  have h8 : w2 1 = .inr (1, [.ref (a 2), .ref (a 3), .ref (a 4), .ref (a 5), .ref (a 6), .ref (a 7), .ref (a 8), .int (nI n)]) := (hfr6 1 (by omega)).trans hsP1
  have h9 : w2 2 = .inl (k.2.1, 12, .inr (.inl up)) := (hfr6 2 (by omega)).trans hsP2
  have h10 : w2 3 = .inl (k.2.1, 12, .inr (.inl lo)) := (hfr6 3 (by omega)).trans hsP3
  have h11 : w2 4 = .inl (k.1, 12, .inl fa) := (hfr6 4 (by omega)).trans hsP4
  have h12 : w2 5 = .inl (k.1, 72, .inl we) := (hfr6 5 (by omega)).trans hsP5
  have h13 : w2 6 = .inl (k.1, 72, .inl ti) := (hfr6 6 (by omega)).trans hsP6
  have h14 : w2 7 = .inl (k.1, 12, .inl ri) := (hfr6 7 (by omega)).trans hsP7
  have h15 : w2 8 = .inl (k.2.2, 144, .inl jo) := (hfr6 8 (by omega)).trans hsP8
  have h16 : w2 22 = .inr (5, [.int th, .int (nI n), .ref (a 23), .ref (a 24), .ref (a 25), .ref (a 26), .ref (a 27), .ref (a 28), .ref (a 29), .int (nI nr), .ref (a 30), .ref (a 31), .int (nI nf), .ref (a 32), .ref (a 33), .int bw, .int bd, .int (nI nt), .ref (a 34), .ref (a 35), .ref (a 36), .ref (a 37)]) := (hfr6 22 (by omega)).trans hsD22
  have h17 : w2 23 = .inl (k.2.2, 12, .inl rd) := (hfr6 23 (by omega)).trans hsDP23
  have h18 : w2 24 = .inl (k.1, 12, .inl ma) := (hfr6 24 (by omega)).trans hsDP24
  have h19 : w2 25 = .inl (k.1, 12, .inl mb) := (hfr6 25 (by omega)).trans hsDP25
  have h20 : w2 26 = .inl (k.1, 12, .inl mc) := (hfr6 26 (by omega)).trans hsDP26
  have h21 : w2 27 = .inl (k.1, 72, .inl co) := (hfr6 27 (by omega)).trans hsDP27
  have h22 : w2 28 = .inl (k.1, 12, .inl jn) := (hfr6 28 (by omega)).trans hsDP28
  have h23 : w2 29 = .inl (k.1, 12, .inl ro) := (hfr6 29 (by omega)).trans hsDP29
  rw [er5]
  refine lv_istore (lv' := [(5, .int 0), (0, .ref b), (1, .ref (a 0)), (2, .ref (a 22)), (3, .ref (a 21)), (4, .int (nI ii))]) hx hb dL_law_486 hl (by decide) rfl (fun ls hl => ?_)
  refine lv_aload_n hx hb dL_law_488 rfl (lv_at hl 3 rfl) ?_
  refine lv_aload_n hx hb dL_law_489 rfl (lv_at hl 1 rfl) ?_
  refine lv_iload hx hb dL_law_490 (lv_at hl 5 rfl) ?_
  refine lv_iconst (v := 1) hx hb dL_law_492 (by decide) ?_
  refine ln_iadd (x := ii) (y := 1) hx hb dL_law_493 ?_
  refine l_sld (v := q) hx hb hX hbl hbA hS (j := ii + 1) (by omega) (by omega) h_1 dL_law_494 ?_
  refine g_Vi (i := 22) (As := [.int q]) (rest := []) (kD_order_k hA h16 ⟨h17, h18, h19, h20, h21, h22, h23⟩ q hqD hnD) calD_order cvD_order mlL_111 hx hb hml hown hts hB hG hK hS (by decide) h16 rfl ⟨by decide, by decide⟩ rfl hl.1 rfl (Nat.le_of_ble_eq_true rfl) dL_law_495 ⟨by show cs + 0 + 0 ≤ 1087; omega, by show ss + 0 + 0 ≤ 9297; omega⟩ (fun r24 w25 H locs hp26 hG hS => ?_)
  obtain ⟨er35, h27, ⟨h28, h29, h30, h31, h32, h33, h34⟩, hfr36⟩ := hp26
  have h37 : w25 0 = .inr (0, [.ref (a 1), .ref (a 9), .ref (a 12), .ref (a 15)]) := (hfr36 0 (by omega)).trans h7
  have h38 : w25 1 = .inr (1, [.ref (a 2), .ref (a 3), .ref (a 4), .ref (a 5), .ref (a 6), .ref (a 7), .ref (a 8), .int (nI n)]) := (hfr36 1 (by omega)).trans h8
  have h39 : w25 2 = .inl (k.2.1, 12, .inr (.inl up)) := (hfr36 2 (by omega)).trans h9
  have h40 : w25 3 = .inl (k.2.1, 12, .inr (.inl lo)) := (hfr36 3 (by omega)).trans h10
  have h41 : w25 4 = .inl (k.1, 12, .inl fa) := (hfr36 4 (by omega)).trans h11
  have h42 : w25 5 = .inl (k.1, 72, .inl we) := (hfr36 5 (by omega)).trans h12
  have h43 : w25 6 = .inl (k.1, 72, .inl ti) := (hfr36 6 (by omega)).trans h13
  have h44 : w25 7 = .inl (k.1, 12, .inl ri) := (hfr36 7 (by omega)).trans h14
  have h45 : w25 8 = .inl (k.2.2, 144, .inl jo) := (hfr36 8 (by omega)).trans h15
  have h46 : w25 21 = .inl (k.2.1, 1, .inr (.inl (vp_updL oo 0 ((fstF (rOrdP up lo n q) n 0).toInt64)))) := (hfr36 21 (by omega)).trans h4
  rw [er35]
  refine lv_istore (lv' := [(6, .int (fstF (mOrdP rd ma mb mc co n q) n 0)), (5, .int 0), (0, .ref b), (1, .ref (a 0)), (2, .ref (a 22)), (3, .ref (a 21)), (4, .int (nI ii))]) hx hb dL_law_498 hl (by decide) rfl (fun ls hl => ?_)
  refine lv_aload_n hx hb dL_law_500 rfl (lv_at hl 4 rfl) ?_
  refine g_ViR (i := 22) (As := []) (rest := []) (kD_thrown hA h27) calD_thrown cvD_thrown mlL_89 hx hb hml hown hts hB hG hK hS (by decide) h27 rfl ⟨by decide, by decide⟩ rfl hl.1 rfl (Nat.le_of_ble_eq_true rfl) dL_law_501 ⟨by show cs + 0 + 0 + 0 ≤ 1087; omega, by show ss + 0 + 0 + 0 ≤ 9297; omega⟩ (fun H locs hG hS => ?_)
  refine lv_iload hx hb dL_law_504 (lv_at hl 1 rfl) ?_
  refine lv_icmp_eq (tgt := 511) hx hb dL_law_506 (by decide) (fun _ => ?_) (fun h9 => absurd h9 (by decide))
  refine lv_iload hx hb dL_law_511 (lv_at hl 1 rfl) ?_
  refine lv_if_ne (tgt := 528) hx hb dL_law_513 (by decide) (fun h9 => absurd h9 (by decide)) (fun _ => ?_)
  refine lv_aload_n hx hb dL_law_516 rfl (lv_at hl 5 rfl) ?_
  refine lv_iconst (v := 0) hx hb dL_law_517 (by decide) ?_
  refine g_lald hx hb hK hG 21 (by decide) h46 (j := 0) (by omega) (by decide) dL_law_518 ?_
  refine lv_iload hx hb dL_law_519 (lv_at hl 0 rfl) ?_
  refine lv_i2l hx hb dL_law_521 rfl ?_
  refine W.lcmp hx hb dL_law_522 ?_
  refine lc_if_eq (tgt := 528) hx hb dL_law_523 (by decide) (fun c49 => ?_) (fun c49 => (absurd (pk_uLs.trans hval) c49))
  refine lv_goto (tgt := 1235) hx hb dL_law_528 (by decide) ?_
  exact kk _ _ _ _  h37 ⟨h38, h39, h40, h41, h42, h43, h44, h45⟩ h46 h27 ⟨h28, h29, h30, h31, h32, h33, h34⟩  (fun z hz => (hfr36 z hz.2).trans (hfr6 z hz.1)) hG hS (lv_sub hl [2, 3, 4, 5, 6] rfl)

set_option maxRecDepth 100000 in
set_option maxHeartbeats 4000000 in
theorem st_order_z {p : Program} {l : Launch} {e : Env} {s : State} {m : MethodId} {args : Array Value} {below : List Frame} {meth : Method} {c : Code} {Q : State → Prop} (hl9 : l.stackTraces = false) {D : va_G} {k : ClassId × ClassId × ClassId} {a : Nat → Nat} {B0 : Nat} {w : Nat → va_E} (hA : gA B0 a) (hx : p.tables.exec = Jvm.exec) (hb : c.code = cL_law) (hml : c.maxLocals = 8) (hown : s.vm.findClass RL = some m.cls) (hts : ∀ w ∈ TB, w.before args s = true) (hB : B0 ≤ s.heap.size) (hK : va_K D vwCl (gT k) s) (hXS : xS B0 s) {b Ls : Nat} {xs : Nat → Int32} (hX : va_X b Ls xs s s.heap) (hbl : b < s.heap.size) (hbA : ¬ gF B0 b) (hL9 : Ls ≤ 2048) {ii : Nat} (hi4 : ii + 4 ≤ Ls) {n : Nat} {up : Nat → Int64} {lo : Nat → Int64} {fa : Nat → Int32} {we : Nat → Int32} {ti : Nat → Int32} {ri : Nat → Int32} {jo : Nat → Int32} {th : Int32} {nr : Nat} {nf : Nat} {bw : Int32} {bd : Int32} {nt : Nat} {rd : Nat → Int32} {ma : Nat → Int32} {mb : Nat → Int32} {mc : Nat → Int32} {co : Nat → Int32} {jn : Nat → Int32} {ro : Nat → Int32} (hsX : sX k a w ) (hsP : sP k a w n up lo fa we ti ri jo) (hsD : sD k a w th n nr nf bw bd nt) (hsDP : sDP k a w rd ma mb mc co jn ro) (q : Int32) (h_1 : xs (ii + 1) = q) (hq : q < 0) (hqD : q < 0) {H : Heap} {locs : List Loc} {ls : Array Slot} (hG : gW D a w H) (hS : va_S (gF B0) s.heap H locs) (hl : lv_has ls 8 [(0, .ref b), (1, .ref (a 0)), (2, .ref (a 22)), (3, .ref (a 21)), (4, .int (nI ii))]) {cs ss : Nat} (hcs : cs + 1 ≤ 1087) (hss : ss + 6 ≤ 9297)
 (kk : ∀ (w' : Nat → va_E) (H' : Heap) (locs' : List Loc) (ls' : Array Slot) , sX k a w' → sP k a w' n up lo fa we ti ri jo → sD k a w' 1 n nr nf bw bd nt → sDP k a w' rd ma mb mc co jn ro → (∀ z, (z < 22 ∨ 29 < z) → w' z = w z) → gW D a w' H' → va_S (gF B0) s.heap H' locs' → lv_has ls' 8 [(0, .ref b), (1, .ref (a 0)), (2, .ref (a 22)), (3, .ref (a 21)), (4, .int (nI ii))] → W p l e room_1 s m args below meth c H' locs' (cs + 1) (ss + 6) Q (F0 m 1235 ls' [])) : W p l e room_1 s m args below meth c H locs cs ss Q (F0 m 475 ls []) := by
  have hsX0 := hsX
  obtain ⟨hsP1, hsP2, hsP3, hsP4, hsP5, hsP6, hsP7, hsP8⟩ := hsP
  have hsD22 := hsD
  obtain ⟨hsDP23, hsDP24, hsDP25, hsDP26, hsDP27, hsDP28, hsDP29⟩ := hsDP
  refine lv_aload_n hx hb dL_law_475 rfl (lv_at hl 1 rfl) ?_
  refine lv_aload_n hx hb dL_law_476 rfl (lv_at hl 0 rfl) ?_
  refine lv_iload hx hb dL_law_477 (lv_at hl 4 rfl) ?_
  refine lv_iconst (v := 1) hx hb dL_law_479 (by decide) ?_
  refine ln_iadd (x := ii) (y := 1) hx hb dL_law_480 ?_
  refine l_sld (v := q) hx hb hX hbl hbA hS (j := ii + 1) (by omega) (by omega) h_1 dL_law_481 ?_
  refine lv_aload_n hx hb dL_law_482 rfl (lv_at hl 3 rfl) ?_
  refine y_Si (As := [.ref (a 0), .int q, .ref (a 21)]) (rest := []) (kL_order_z hl9 hA hsX0 ⟨hsP1, hsP2, hsP3, hsP4, hsP5, hsP6, hsP7, hsP8⟩ q hq) calL_order mlL_108 hx hb hml hown hts hB hG hK hS hXS ⟨by decide, by decide⟩ rfl hl.1 rfl (Nat.le_of_ble_eq_true rfl) dL_law_483 ⟨by show cs + 1 ≤ 1087; omega, by show ss + 6 ≤ 9297; omega⟩ (fun H locs hG hS => ?_)
  refine lv_istore (lv' := [(5, .int 1), (0, .ref b), (1, .ref (a 0)), (2, .ref (a 22)), (3, .ref (a 21)), (4, .int (nI ii))]) hx hb dL_law_486 hl (by decide) rfl (fun ls hl => ?_)
  refine lv_aload_n hx hb dL_law_488 rfl (lv_at hl 3 rfl) ?_
  refine lv_aload_n hx hb dL_law_489 rfl (lv_at hl 1 rfl) ?_
  refine lv_iload hx hb dL_law_490 (lv_at hl 5 rfl) ?_
  refine lv_iconst (v := 1) hx hb dL_law_492 (by decide) ?_
  refine ln_iadd (x := ii) (y := 1) hx hb dL_law_493 ?_
  refine l_sld (v := q) hx hb hX hbl hbA hS (j := ii + 1) (by omega) (by omega) h_1 dL_law_494 ?_
  refine g_Vi (i := 22) (As := [.int q]) (rest := []) (kD_order_z hA hsD22 ⟨hsDP23, hsDP24, hsDP25, hsDP26, hsDP27, hsDP28, hsDP29⟩ q hqD) calD_order cvD_order mlL_111 hx hb hml hown hts hB hG hK hS (by decide) hsD22 rfl ⟨by decide, by decide⟩ rfl hl.1 rfl (Nat.le_of_ble_eq_true rfl) dL_law_495 ⟨by show cs + 1 + 0 ≤ 1087; omega, by show ss + 6 + 0 ≤ 9297; omega⟩ (fun r1 w2 H locs hp3 hG hS => ?_)
  obtain ⟨er12, h4, ⟨h5, h6, h7, h8, h9, h10, h11⟩, hfr13⟩ := hp3
  have h14 : w2 0 = .inr (0, [.ref (a 1), .ref (a 9), .ref (a 12), .ref (a 15)]) := (hfr13 0 (by omega)).trans hsX0
  have h15 : w2 1 = .inr (1, [.ref (a 2), .ref (a 3), .ref (a 4), .ref (a 5), .ref (a 6), .ref (a 7), .ref (a 8), .int (nI n)]) := (hfr13 1 (by omega)).trans hsP1
  have h16 : w2 2 = .inl (k.2.1, 12, .inr (.inl up)) := (hfr13 2 (by omega)).trans hsP2
  have h17 : w2 3 = .inl (k.2.1, 12, .inr (.inl lo)) := (hfr13 3 (by omega)).trans hsP3
  have h18 : w2 4 = .inl (k.1, 12, .inl fa) := (hfr13 4 (by omega)).trans hsP4
  have h19 : w2 5 = .inl (k.1, 72, .inl we) := (hfr13 5 (by omega)).trans hsP5
  have h20 : w2 6 = .inl (k.1, 72, .inl ti) := (hfr13 6 (by omega)).trans hsP6
  have h21 : w2 7 = .inl (k.1, 12, .inl ri) := (hfr13 7 (by omega)).trans hsP7
  have h22 : w2 8 = .inl (k.2.2, 144, .inl jo) := (hfr13 8 (by omega)).trans hsP8
  rw [er12]
  refine lv_istore (lv' := [(6, .int 0), (5, .int 1), (0, .ref b), (1, .ref (a 0)), (2, .ref (a 22)), (3, .ref (a 21)), (4, .int (nI ii))]) hx hb dL_law_498 hl (by decide) rfl (fun ls hl => ?_)
  refine lv_aload_n hx hb dL_law_500 rfl (lv_at hl 4 rfl) ?_
  refine g_ViR (i := 22) (As := []) (rest := []) (kD_thrown hA h4) calD_thrown cvD_thrown mlL_89 hx hb hml hown hts hB hG hK hS (by decide) h4 rfl ⟨by decide, by decide⟩ rfl hl.1 rfl (Nat.le_of_ble_eq_true rfl) dL_law_501 ⟨by show cs + 1 + 0 + 0 ≤ 1087; omega, by show ss + 6 + 0 + 0 ≤ 9297; omega⟩ (fun H locs hG hS => ?_)
  refine lv_iload hx hb dL_law_504 (lv_at hl 1 rfl) ?_
  refine lv_icmp_eq (tgt := 511) hx hb dL_law_506 (by decide) (fun _ => ?_) (fun h9 => absurd h9 (by decide))
  refine lv_iload hx hb dL_law_511 (lv_at hl 1 rfl) ?_
  refine lv_if_ne (tgt := 528) hx hb dL_law_513 (by decide) (fun _ => ?_) (fun h9 => absurd h9 (by decide))
  refine lv_goto (tgt := 1235) hx hb dL_law_528 (by decide) ?_
  exact kk _ _ _ _  h14 ⟨h15, h16, h17, h18, h19, h20, h21, h22⟩ h4 ⟨h5, h6, h7, h8, h9, h10, h11⟩  hfr13 hG hS (lv_sub hl [2, 3, 4, 5, 6] rfl)

set_option maxRecDepth 100000 in
set_option maxHeartbeats 4000000 in
theorem st_riserRow_k {p : Program} {l : Launch} {e : Env} {s : State} {m : MethodId} {args : Array Value} {below : List Frame} {meth : Method} {c : Code} {Q : State → Prop} (hl9 : l.stackTraces = false) {D : va_G} {k : ClassId × ClassId × ClassId} {a : Nat → Nat} {B0 : Nat} {w : Nat → va_E} (hA : gA B0 a) (hx : p.tables.exec = Jvm.exec) (hb : c.code = cL_law) (hml : c.maxLocals = 8) (hown : s.vm.findClass RL = some m.cls) (hts : ∀ w ∈ TB, w.before args s = true) (hB : B0 ≤ s.heap.size) (hK : va_K D vwCl (gT k) s) (hXS : xS B0 s) {b Ls : Nat} {xs : Nat → Int32} (hX : va_X b Ls xs s s.heap) (hbl : b < s.heap.size) (hbA : ¬ gF B0 b) (hL9 : Ls ≤ 2048) {ii : Nat} (hi4 : ii + 4 ≤ Ls) {nr : Nat} {ru : Nat → Int64} {rl : Nat → Int64} {oo : Nat → Int64} {th : Int32} {n : Nat} {nf : Nat} {bw : Int32} {bd : Int32} {nt : Nat} {md : Nat → Int32} {mh : Nat → Int32} (hsX : sX k a w ) (hsR : sR k a w nr ru rl) (hsO : sO k a w oo) (hsD : sD k a w th n nr nf bw bd nt) (hsDR : sDR k a w md mh) (x : Int32) (y : Int32) (h_1 : xs (ii + 1) = x) (h_2 : xs (ii + 2) = y) (hn : nr < 8) (h1 : szR x) (h2 : szR y) (hnD : nr < 8) (h1D : szR x) (h2D : szR y) (hval : (nI (nr + 1)).toInt64 = (nI (nr + 1)).toInt64) {H : Heap} {locs : List Loc} {ls : Array Slot} (hG : gW D a w H) (hS : va_S (gF B0) s.heap H locs) (hl : lv_has ls 8 [(0, .ref b), (1, .ref (a 0)), (2, .ref (a 22)), (3, .ref (a 21)), (4, .int (nI ii))]) {cs ss : Nat} (hcs : cs + 1 ≤ 1087) (hss : ss + 6 ≤ 9297)
 (kk : ∀ (w' : Nat → va_E) (H' : Heap) (locs' : List Loc) (ls' : Array Slot) , sX k a w' → sR k a w' (nr + 1) (vp_updL ru nr (x.toInt64 * y.toInt64)) (vp_updL rl nr (4 * y.toInt64 + x.toInt64)) → sO k a w' (vp_updL oo 0 ((nI (nr + 1)).toInt64)) → sD k a w' 0 n (nr + 1) nf bw bd nt → sDR k a w' (upd md nr x) (upd mh nr y) → (∀ z, ((z < 9 ∨ 11 < z) ∧ z ≠ 21) ∧ ((z < 30 ∨ 31 < z) ∧ z ≠ 22) → w' z = w z) → gW D a w' H' → va_S (gF B0) s.heap H' locs' → lv_has ls' 8 [(0, .ref b), (1, .ref (a 0)), (2, .ref (a 22)), (3, .ref (a 21)), (4, .int (nI ii))] → W p l e room_1 s m args below meth c H' locs' (cs + 0) (ss + 0) Q (F0 m 1235 ls' [])) : W p l e room_1 s m args below meth c H locs cs ss Q (F0 m 531 ls []) := by
  have hsX0 := hsX
  obtain ⟨hsR9, hsR10, hsR11⟩ := hsR
  have hsO21 := hsO
  have hsD22 := hsD
  obtain ⟨hsDR30, hsDR31⟩ := hsDR
  refine lv_aload_n hx hb dL_law_531 rfl (lv_at hl 1 rfl) ?_
  refine lv_aload_n hx hb dL_law_532 rfl (lv_at hl 0 rfl) ?_
  refine lv_iload hx hb dL_law_533 (lv_at hl 4 rfl) ?_
  refine lv_iconst (v := 1) hx hb dL_law_535 (by decide) ?_
  refine ln_iadd (x := ii) (y := 1) hx hb dL_law_536 ?_
  refine l_sld (v := x) hx hb hX hbl hbA hS (j := ii + 1) (by omega) (by omega) h_1 dL_law_537 ?_
  refine lv_aload_n hx hb dL_law_538 rfl (lv_at hl 0 rfl) ?_
  refine lv_iload hx hb dL_law_539 (lv_at hl 4 rfl) ?_
  refine lv_iconst (v := 2) hx hb dL_law_541 (by decide) ?_
  refine ln_iadd (x := ii) (y := 2) hx hb dL_law_542 ?_
  refine l_sld (v := y) hx hb hX hbl hbA hS (j := ii + 2) (by omega) (by omega) h_2 dL_law_543 ?_
  refine lv_aload_n hx hb dL_law_544 rfl (lv_at hl 3 rfl) ?_
  refine h_Si (As := [.ref (a 0), .int x, .int y, .ref (a 21)]) (rest := []) (kL_riserRow_k hA hsX0 ⟨hsR9, hsR10, hsR11⟩ hsO21 x y hn h1 h2) calL_riserRow mlL_112 hx hb hml hown hts hB hG hK hS ⟨by decide, by decide⟩ rfl hl.1 rfl (Nat.le_of_ble_eq_true rfl) dL_law_545 ⟨by show cs + 0 ≤ 1087; omega, by show ss + 0 ≤ 9297; omega⟩ (fun r1 w2 H locs hp3 hG hS => ?_)
  obtain ⟨er8, ⟨h4, h5, h6⟩, h7, hfr9⟩ := hp3
  have h10 : w2 0 = .inr (0, [.ref (a 1), .ref (a 9), .ref (a 12), .ref (a 15)]) := (hfr9 0 (by omega)).trans hsX0
  have h11 : w2 22 = .inr (5, [.int th, .int (nI n), .ref (a 23), .ref (a 24), .ref (a 25), .ref (a 26), .ref (a 27), .ref (a 28), .ref (a 29), .int (nI nr), .ref (a 30), .ref (a 31), .int (nI nf), .ref (a 32), .ref (a 33), .int bw, .int bd, .int (nI nt), .ref (a 34), .ref (a 35), .ref (a 36), .ref (a 37)]) := (hfr9 22 (by omega)).trans hsD22
  have h12 : w2 30 = .inl (k.1, 8, .inl md) := (hfr9 30 (by omega)).trans hsDR30
  have h13 : w2 31 = .inl (k.1, 8, .inl mh) := (hfr9 31 (by omega)).trans hsDR31
  rw [er8]
  refine lv_istore (lv' := [(5, .int 0), (0, .ref b), (1, .ref (a 0)), (2, .ref (a 22)), (3, .ref (a 21)), (4, .int (nI ii))]) hx hb dL_law_548 hl (by decide) rfl (fun ls hl => ?_)
  refine lv_aload_n hx hb dL_law_550 rfl (lv_at hl 3 rfl) ?_
  refine lv_aload_n hx hb dL_law_551 rfl (lv_at hl 1 rfl) ?_
  refine lv_iload hx hb dL_law_552 (lv_at hl 5 rfl) ?_
  refine lv_iconst (v := 1) hx hb dL_law_554 (by decide) ?_
  refine ln_iadd (x := ii) (y := 1) hx hb dL_law_555 ?_
  refine l_sld (v := x) hx hb hX hbl hbA hS (j := ii + 1) (by omega) (by omega) h_1 dL_law_556 ?_
  refine lv_aload_n hx hb dL_law_557 rfl (lv_at hl 1 rfl) ?_
  refine lv_iload hx hb dL_law_558 (lv_at hl 5 rfl) ?_
  refine lv_iconst (v := 2) hx hb dL_law_560 (by decide) ?_
  refine ln_iadd (x := ii) (y := 2) hx hb dL_law_561 ?_
  refine l_sld (v := y) hx hb hX hbl hbA hS (j := ii + 2) (by omega) (by omega) h_2 dL_law_562 ?_
  refine g_Vi (i := 22) (As := [.int x, .int y]) (rest := []) (kD_riserRow_k hA h11 ⟨h12, h13⟩ x y hnD h1D h2D) calD_riserRow cvD_riserRow mlL_114 hx hb hml hown hts hB hG hK hS (by decide) h11 rfl ⟨by decide, by decide⟩ rfl hl.1 rfl (Nat.le_of_ble_eq_true rfl) dL_law_563 ⟨by show cs + 0 + 0 ≤ 1087; omega, by show ss + 0 + 0 ≤ 9297; omega⟩ (fun r14 w15 H locs hp16 hG hS => ?_)
  obtain ⟨er20, h17, ⟨h18, h19⟩, hfr21⟩ := hp16
  have h22 : w15 0 = .inr (0, [.ref (a 1), .ref (a 9), .ref (a 12), .ref (a 15)]) := (hfr21 0 (by omega)).trans h10
  have h23 : w15 9 = .inr (2, [.ref (a 10), .ref (a 11), .int (nI (nr + 1))]) := (hfr21 9 (by omega)).trans h4
  have h24 : w15 10 = .inl (k.2.1, 8, .inr (.inl (vp_updL ru nr (x.toInt64 * y.toInt64)))) := (hfr21 10 (by omega)).trans h5
  have h25 : w15 11 = .inl (k.2.1, 8, .inr (.inl (vp_updL rl nr (4 * y.toInt64 + x.toInt64)))) := (hfr21 11 (by omega)).trans h6
  have h26 : w15 21 = .inl (k.2.1, 1, .inr (.inl (vp_updL oo 0 ((nI (nr + 1)).toInt64)))) := (hfr21 21 (by omega)).trans h7
  rw [er20]
  refine lv_istore (lv' := [(6, .int (nI (nr + 1))), (5, .int 0), (0, .ref b), (1, .ref (a 0)), (2, .ref (a 22)), (3, .ref (a 21)), (4, .int (nI ii))]) hx hb dL_law_566 hl (by decide) rfl (fun ls hl => ?_)
  refine lv_aload_n hx hb dL_law_568 rfl (lv_at hl 4 rfl) ?_
  refine g_ViR (i := 22) (As := []) (rest := []) (kD_thrown hA h17) calD_thrown cvD_thrown mlL_89 hx hb hml hown hts hB hG hK hS (by decide) h17 rfl ⟨by decide, by decide⟩ rfl hl.1 rfl (Nat.le_of_ble_eq_true rfl) dL_law_569 ⟨by show cs + 0 + 0 + 0 ≤ 1087; omega, by show ss + 0 + 0 + 0 ≤ 9297; omega⟩ (fun H locs hG hS => ?_)
  refine lv_iload hx hb dL_law_572 (lv_at hl 1 rfl) ?_
  refine lv_icmp_eq (tgt := 579) hx hb dL_law_574 (by decide) (fun _ => ?_) (fun h9 => absurd h9 (by decide))
  refine lv_iload hx hb dL_law_579 (lv_at hl 1 rfl) ?_
  refine lv_if_ne (tgt := 596) hx hb dL_law_581 (by decide) (fun h9 => absurd h9 (by decide)) (fun _ => ?_)
  refine lv_aload_n hx hb dL_law_584 rfl (lv_at hl 5 rfl) ?_
  refine lv_iconst (v := 0) hx hb dL_law_585 (by decide) ?_
  refine g_lald hx hb hK hG 21 (by decide) h26 (j := 0) (by omega) (by decide) dL_law_586 ?_
  refine lv_iload hx hb dL_law_587 (lv_at hl 0 rfl) ?_
  refine lv_i2l hx hb dL_law_589 rfl ?_
  refine W.lcmp hx hb dL_law_590 ?_
  refine lc_if_eq (tgt := 596) hx hb dL_law_591 (by decide) (fun c29 => ?_) (fun c29 => (absurd (pk_uLs.trans hval) c29))
  refine lv_goto (tgt := 1235) hx hb dL_law_596 (by decide) ?_
  exact kk _ _ _ _  h22 ⟨h23, h24, h25⟩ h26 h17 ⟨h18, h19⟩  (fun z hz => (hfr21 z hz.2).trans (hfr9 z hz.1)) hG hS (lv_sub hl [2, 3, 4, 5, 6] rfl)

set_option maxRecDepth 100000 in
set_option maxHeartbeats 4000000 in
theorem st_riserRow_f {p : Program} {l : Launch} {e : Env} {s : State} {m : MethodId} {args : Array Value} {below : List Frame} {meth : Method} {c : Code} {Q : State → Prop} (hl9 : l.stackTraces = false) {D : va_G} {k : ClassId × ClassId × ClassId} {a : Nat → Nat} {B0 : Nat} {w : Nat → va_E} (hA : gA B0 a) (hx : p.tables.exec = Jvm.exec) (hb : c.code = cL_law) (hml : c.maxLocals = 8) (hown : s.vm.findClass RL = some m.cls) (hts : ∀ w ∈ TB, w.before args s = true) (hB : B0 ≤ s.heap.size) (hK : va_K D vwCl (gT k) s) (hXS : xS B0 s) {b Ls : Nat} {xs : Nat → Int32} (hX : va_X b Ls xs s s.heap) (hbl : b < s.heap.size) (hbA : ¬ gF B0 b) (hL9 : Ls ≤ 2048) {ii : Nat} (hi4 : ii + 4 ≤ Ls) {nr : Nat} {ru : Nat → Int64} {rl : Nat → Int64} {th : Int32} {n : Nat} {nf : Nat} {bw : Int32} {bd : Int32} {nt : Nat} {md : Nat → Int32} {mh : Nat → Int32} (hsX : sX k a w ) (hsR : sR k a w nr ru rl) (hsD : sD k a w th n nr nf bw bd nt) (hsDR : sDR k a w md mh) (x : Int32) (y : Int32) (h_1 : xs (ii + 1) = x) (h_2 : xs (ii + 2) = y) (hn : nr = 8) (hnD : nr = 8) {H : Heap} {locs : List Loc} {ls : Array Slot} (hG : gW D a w H) (hS : va_S (gF B0) s.heap H locs) (hl : lv_has ls 8 [(0, .ref b), (1, .ref (a 0)), (2, .ref (a 22)), (3, .ref (a 21)), (4, .int (nI ii))]) {cs ss : Nat} (hcs : cs + 1 ≤ 1087) (hss : ss + 6 ≤ 9297)
 (kk : ∀ (w' : Nat → va_E) (H' : Heap) (locs' : List Loc) (ls' : Array Slot) , sX k a w' → sR k a w' nr ru rl → sD k a w' 1 n nr nf bw bd nt → sDR k a w' md mh → (∀ z, ((z < 30 ∨ 31 < z) ∧ z ≠ 22) → w' z = w z) → gW D a w' H' → va_S (gF B0) s.heap H' locs' → lv_has ls' 8 [(0, .ref b), (1, .ref (a 0)), (2, .ref (a 22)), (3, .ref (a 21)), (4, .int (nI ii))] → W p l e room_1 s m args below meth c H' locs' (cs + 1) (ss + 6) Q (F0 m 1235 ls' [])) : W p l e room_1 s m args below meth c H locs cs ss Q (F0 m 531 ls []) := by
  have hsX0 := hsX
  obtain ⟨hsR9, hsR10, hsR11⟩ := hsR
  have hsD22 := hsD
  obtain ⟨hsDR30, hsDR31⟩ := hsDR
  refine lv_aload_n hx hb dL_law_531 rfl (lv_at hl 1 rfl) ?_
  refine lv_aload_n hx hb dL_law_532 rfl (lv_at hl 0 rfl) ?_
  refine lv_iload hx hb dL_law_533 (lv_at hl 4 rfl) ?_
  refine lv_iconst (v := 1) hx hb dL_law_535 (by decide) ?_
  refine ln_iadd (x := ii) (y := 1) hx hb dL_law_536 ?_
  refine l_sld (v := x) hx hb hX hbl hbA hS (j := ii + 1) (by omega) (by omega) h_1 dL_law_537 ?_
  refine lv_aload_n hx hb dL_law_538 rfl (lv_at hl 0 rfl) ?_
  refine lv_iload hx hb dL_law_539 (lv_at hl 4 rfl) ?_
  refine lv_iconst (v := 2) hx hb dL_law_541 (by decide) ?_
  refine ln_iadd (x := ii) (y := 2) hx hb dL_law_542 ?_
  refine l_sld (v := y) hx hb hX hbl hbA hS (j := ii + 2) (by omega) (by omega) h_2 dL_law_543 ?_
  refine lv_aload_n hx hb dL_law_544 rfl (lv_at hl 3 rfl) ?_
  refine y_Si (As := [.ref (a 0), .int x, .int y, .ref (a 21)]) (rest := []) (kL_riserRow_f hl9 hA hsX0 ⟨hsR9, hsR10, hsR11⟩ x y hn) calL_riserRow mlL_112 hx hb hml hown hts hB hG hK hS hXS ⟨by decide, by decide⟩ rfl hl.1 rfl (Nat.le_of_ble_eq_true rfl) dL_law_545 ⟨by show cs + 1 ≤ 1087; omega, by show ss + 6 ≤ 9297; omega⟩ (fun H locs hG hS => ?_)
  refine lv_istore (lv' := [(5, .int 1), (0, .ref b), (1, .ref (a 0)), (2, .ref (a 22)), (3, .ref (a 21)), (4, .int (nI ii))]) hx hb dL_law_548 hl (by decide) rfl (fun ls hl => ?_)
  refine lv_aload_n hx hb dL_law_550 rfl (lv_at hl 3 rfl) ?_
  refine lv_aload_n hx hb dL_law_551 rfl (lv_at hl 1 rfl) ?_
  refine lv_iload hx hb dL_law_552 (lv_at hl 5 rfl) ?_
  refine lv_iconst (v := 1) hx hb dL_law_554 (by decide) ?_
  refine ln_iadd (x := ii) (y := 1) hx hb dL_law_555 ?_
  refine l_sld (v := x) hx hb hX hbl hbA hS (j := ii + 1) (by omega) (by omega) h_1 dL_law_556 ?_
  refine lv_aload_n hx hb dL_law_557 rfl (lv_at hl 1 rfl) ?_
  refine lv_iload hx hb dL_law_558 (lv_at hl 5 rfl) ?_
  refine lv_iconst (v := 2) hx hb dL_law_560 (by decide) ?_
  refine ln_iadd (x := ii) (y := 2) hx hb dL_law_561 ?_
  refine l_sld (v := y) hx hb hX hbl hbA hS (j := ii + 2) (by omega) (by omega) h_2 dL_law_562 ?_
  refine g_Vi (i := 22) (As := [.int x, .int y]) (rest := []) (kD_riserRow_f hA hsD22 ⟨hsDR30, hsDR31⟩ x y hnD) calD_riserRow cvD_riserRow mlL_114 hx hb hml hown hts hB hG hK hS (by decide) hsD22 rfl ⟨by decide, by decide⟩ rfl hl.1 rfl (Nat.le_of_ble_eq_true rfl) dL_law_563 ⟨by show cs + 1 + 0 ≤ 1087; omega, by show ss + 6 + 0 ≤ 9297; omega⟩ (fun r1 w2 H locs hp3 hG hS => ?_)
  obtain ⟨er7, h4, ⟨h5, h6⟩, hfr8⟩ := hp3
  have h9 : w2 0 = .inr (0, [.ref (a 1), .ref (a 9), .ref (a 12), .ref (a 15)]) := (hfr8 0 (by omega)).trans hsX0
  have h10 : w2 9 = .inr (2, [.ref (a 10), .ref (a 11), .int (nI nr)]) := (hfr8 9 (by omega)).trans hsR9
  have h11 : w2 10 = .inl (k.2.1, 8, .inr (.inl ru)) := (hfr8 10 (by omega)).trans hsR10
  have h12 : w2 11 = .inl (k.2.1, 8, .inr (.inl rl)) := (hfr8 11 (by omega)).trans hsR11
  rw [er7]
  refine lv_istore (lv' := [(6, .int 0), (5, .int 1), (0, .ref b), (1, .ref (a 0)), (2, .ref (a 22)), (3, .ref (a 21)), (4, .int (nI ii))]) hx hb dL_law_566 hl (by decide) rfl (fun ls hl => ?_)
  refine lv_aload_n hx hb dL_law_568 rfl (lv_at hl 4 rfl) ?_
  refine g_ViR (i := 22) (As := []) (rest := []) (kD_thrown hA h4) calD_thrown cvD_thrown mlL_89 hx hb hml hown hts hB hG hK hS (by decide) h4 rfl ⟨by decide, by decide⟩ rfl hl.1 rfl (Nat.le_of_ble_eq_true rfl) dL_law_569 ⟨by show cs + 1 + 0 + 0 ≤ 1087; omega, by show ss + 6 + 0 + 0 ≤ 9297; omega⟩ (fun H locs hG hS => ?_)
  refine lv_iload hx hb dL_law_572 (lv_at hl 1 rfl) ?_
  refine lv_icmp_eq (tgt := 579) hx hb dL_law_574 (by decide) (fun _ => ?_) (fun h9 => absurd h9 (by decide))
  refine lv_iload hx hb dL_law_579 (lv_at hl 1 rfl) ?_
  refine lv_if_ne (tgt := 596) hx hb dL_law_581 (by decide) (fun _ => ?_) (fun h9 => absurd h9 (by decide))
  refine lv_goto (tgt := 1235) hx hb dL_law_596 (by decide) ?_
  exact kk _ _ _ _  h9 ⟨h10, h11, h12⟩ h4 ⟨h5, h6⟩  hfr8 hG hS (lv_sub hl [2, 3, 4, 5, 6] rfl)

set_option maxRecDepth 100000 in
set_option maxHeartbeats 4000000 in
theorem st_riserRow_z {p : Program} {l : Launch} {e : Env} {s : State} {m : MethodId} {args : Array Value} {below : List Frame} {meth : Method} {c : Code} {Q : State → Prop} (hl9 : l.stackTraces = false) {D : va_G} {k : ClassId × ClassId × ClassId} {a : Nat → Nat} {B0 : Nat} {w : Nat → va_E} (hA : gA B0 a) (hx : p.tables.exec = Jvm.exec) (hb : c.code = cL_law) (hml : c.maxLocals = 8) (hown : s.vm.findClass RL = some m.cls) (hts : ∀ w ∈ TB, w.before args s = true) (hB : B0 ≤ s.heap.size) (hK : va_K D vwCl (gT k) s) (hXS : xS B0 s) {b Ls : Nat} {xs : Nat → Int32} (hX : va_X b Ls xs s s.heap) (hbl : b < s.heap.size) (hbA : ¬ gF B0 b) (hL9 : Ls ≤ 2048) {ii : Nat} (hi4 : ii + 4 ≤ Ls) {nr : Nat} {ru : Nat → Int64} {rl : Nat → Int64} {th : Int32} {n : Nat} {nf : Nat} {bw : Int32} {bd : Int32} {nt : Nat} {md : Nat → Int32} {mh : Nat → Int32} (hsX : sX k a w ) (hsR : sR k a w nr ru rl) (hsD : sD k a w th n nr nf bw bd nt) (hsDR : sDR k a w md mh) (x : Int32) (y : Int32) (h_1 : xs (ii + 1) = x) (h_2 : xs (ii + 2) = y) (hn : nr < 8) (hz : ¬ (szR x ∧ szR y)) (hnD : nr < 8) (hzD : ¬ (szR x ∧ szR y)) {H : Heap} {locs : List Loc} {ls : Array Slot} (hG : gW D a w H) (hS : va_S (gF B0) s.heap H locs) (hl : lv_has ls 8 [(0, .ref b), (1, .ref (a 0)), (2, .ref (a 22)), (3, .ref (a 21)), (4, .int (nI ii))]) {cs ss : Nat} (hcs : cs + 1 ≤ 1087) (hss : ss + 6 ≤ 9297)
 (kk : ∀ (w' : Nat → va_E) (H' : Heap) (locs' : List Loc) (ls' : Array Slot) , sX k a w' → sR k a w' nr ru rl → sD k a w' 2 n nr nf bw bd nt → sDR k a w' md mh → (∀ z, ((z < 30 ∨ 31 < z) ∧ z ≠ 22) → w' z = w z) → gW D a w' H' → va_S (gF B0) s.heap H' locs' → lv_has ls' 8 [(0, .ref b), (1, .ref (a 0)), (2, .ref (a 22)), (3, .ref (a 21)), (4, .int (nI ii))] → W p l e room_1 s m args below meth c H' locs' (cs + 1) (ss + 6) Q (F0 m 1235 ls' [])) : W p l e room_1 s m args below meth c H locs cs ss Q (F0 m 531 ls []) := by
  have hsX0 := hsX
  obtain ⟨hsR9, hsR10, hsR11⟩ := hsR
  have hsD22 := hsD
  obtain ⟨hsDR30, hsDR31⟩ := hsDR
  refine lv_aload_n hx hb dL_law_531 rfl (lv_at hl 1 rfl) ?_
  refine lv_aload_n hx hb dL_law_532 rfl (lv_at hl 0 rfl) ?_
  refine lv_iload hx hb dL_law_533 (lv_at hl 4 rfl) ?_
  refine lv_iconst (v := 1) hx hb dL_law_535 (by decide) ?_
  refine ln_iadd (x := ii) (y := 1) hx hb dL_law_536 ?_
  refine l_sld (v := x) hx hb hX hbl hbA hS (j := ii + 1) (by omega) (by omega) h_1 dL_law_537 ?_
  refine lv_aload_n hx hb dL_law_538 rfl (lv_at hl 0 rfl) ?_
  refine lv_iload hx hb dL_law_539 (lv_at hl 4 rfl) ?_
  refine lv_iconst (v := 2) hx hb dL_law_541 (by decide) ?_
  refine ln_iadd (x := ii) (y := 2) hx hb dL_law_542 ?_
  refine l_sld (v := y) hx hb hX hbl hbA hS (j := ii + 2) (by omega) (by omega) h_2 dL_law_543 ?_
  refine lv_aload_n hx hb dL_law_544 rfl (lv_at hl 3 rfl) ?_
  refine y_Si (As := [.ref (a 0), .int x, .int y, .ref (a 21)]) (rest := []) (kL_riserRow_z hl9 hA hsX0 ⟨hsR9, hsR10, hsR11⟩ x y hn hz) calL_riserRow mlL_112 hx hb hml hown hts hB hG hK hS hXS ⟨by decide, by decide⟩ rfl hl.1 rfl (Nat.le_of_ble_eq_true rfl) dL_law_545 ⟨by show cs + 1 ≤ 1087; omega, by show ss + 6 ≤ 9297; omega⟩ (fun H locs hG hS => ?_)
  refine lv_istore (lv' := [(5, .int 2), (0, .ref b), (1, .ref (a 0)), (2, .ref (a 22)), (3, .ref (a 21)), (4, .int (nI ii))]) hx hb dL_law_548 hl (by decide) rfl (fun ls hl => ?_)
  refine lv_aload_n hx hb dL_law_550 rfl (lv_at hl 3 rfl) ?_
  refine lv_aload_n hx hb dL_law_551 rfl (lv_at hl 1 rfl) ?_
  refine lv_iload hx hb dL_law_552 (lv_at hl 5 rfl) ?_
  refine lv_iconst (v := 1) hx hb dL_law_554 (by decide) ?_
  refine ln_iadd (x := ii) (y := 1) hx hb dL_law_555 ?_
  refine l_sld (v := x) hx hb hX hbl hbA hS (j := ii + 1) (by omega) (by omega) h_1 dL_law_556 ?_
  refine lv_aload_n hx hb dL_law_557 rfl (lv_at hl 1 rfl) ?_
  refine lv_iload hx hb dL_law_558 (lv_at hl 5 rfl) ?_
  refine lv_iconst (v := 2) hx hb dL_law_560 (by decide) ?_
  refine ln_iadd (x := ii) (y := 2) hx hb dL_law_561 ?_
  refine l_sld (v := y) hx hb hX hbl hbA hS (j := ii + 2) (by omega) (by omega) h_2 dL_law_562 ?_
  refine g_Vi (i := 22) (As := [.int x, .int y]) (rest := []) (kD_riserRow_z hA hsD22 ⟨hsDR30, hsDR31⟩ x y hnD hzD) calD_riserRow cvD_riserRow mlL_114 hx hb hml hown hts hB hG hK hS (by decide) hsD22 rfl ⟨by decide, by decide⟩ rfl hl.1 rfl (Nat.le_of_ble_eq_true rfl) dL_law_563 ⟨by show cs + 1 + 0 ≤ 1087; omega, by show ss + 6 + 0 ≤ 9297; omega⟩ (fun r1 w2 H locs hp3 hG hS => ?_)
  obtain ⟨er7, h4, ⟨h5, h6⟩, hfr8⟩ := hp3
  have h9 : w2 0 = .inr (0, [.ref (a 1), .ref (a 9), .ref (a 12), .ref (a 15)]) := (hfr8 0 (by omega)).trans hsX0
  have h10 : w2 9 = .inr (2, [.ref (a 10), .ref (a 11), .int (nI nr)]) := (hfr8 9 (by omega)).trans hsR9
  have h11 : w2 10 = .inl (k.2.1, 8, .inr (.inl ru)) := (hfr8 10 (by omega)).trans hsR10
  have h12 : w2 11 = .inl (k.2.1, 8, .inr (.inl rl)) := (hfr8 11 (by omega)).trans hsR11
  rw [er7]
  refine lv_istore (lv' := [(6, .int 0), (5, .int 2), (0, .ref b), (1, .ref (a 0)), (2, .ref (a 22)), (3, .ref (a 21)), (4, .int (nI ii))]) hx hb dL_law_566 hl (by decide) rfl (fun ls hl => ?_)
  refine lv_aload_n hx hb dL_law_568 rfl (lv_at hl 4 rfl) ?_
  refine g_ViR (i := 22) (As := []) (rest := []) (kD_thrown hA h4) calD_thrown cvD_thrown mlL_89 hx hb hml hown hts hB hG hK hS (by decide) h4 rfl ⟨by decide, by decide⟩ rfl hl.1 rfl (Nat.le_of_ble_eq_true rfl) dL_law_569 ⟨by show cs + 1 + 0 + 0 ≤ 1087; omega, by show ss + 6 + 0 + 0 ≤ 9297; omega⟩ (fun H locs hG hS => ?_)
  refine lv_iload hx hb dL_law_572 (lv_at hl 1 rfl) ?_
  refine lv_icmp_eq (tgt := 579) hx hb dL_law_574 (by decide) (fun _ => ?_) (fun h9 => absurd h9 (by decide))
  refine lv_iload hx hb dL_law_579 (lv_at hl 1 rfl) ?_
  refine lv_if_ne (tgt := 596) hx hb dL_law_581 (by decide) (fun _ => ?_) (fun h9 => absurd h9 (by decide))
  refine lv_goto (tgt := 1235) hx hb dL_law_596 (by decide) ?_
  exact kk _ _ _ _  h9 ⟨h10, h11, h12⟩ h4 ⟨h5, h6⟩  hfr8 hG hS (lv_sub hl [2, 3, 4, 5, 6] rfl)

set_option maxRecDepth 100000 in
set_option maxHeartbeats 4000000 in
theorem st_riser_k {p : Program} {l : Launch} {e : Env} {s : State} {m : MethodId} {args : Array Value} {below : List Frame} {meth : Method} {c : Code} {Q : State → Prop} (hl9 : l.stackTraces = false) {D : va_G} {k : ClassId × ClassId × ClassId} {a : Nat → Nat} {B0 : Nat} {w : Nat → va_E} (hA : gA B0 a) (hx : p.tables.exec = Jvm.exec) (hb : c.code = cL_law) (hml : c.maxLocals = 8) (hown : s.vm.findClass RL = some m.cls) (hts : ∀ w ∈ TB, w.before args s = true) (hB : B0 ≤ s.heap.size) (hK : va_K D vwCl (gT k) s) (hXS : xS B0 s) {b Ls : Nat} {xs : Nat → Int32} (hX : va_X b Ls xs s s.heap) (hbl : b < s.heap.size) (hbA : ¬ gF B0 b) (hL9 : Ls ≤ 2048) {ii : Nat} (hi4 : ii + 4 ≤ Ls) {n : Nat} {up : Nat → Int64} {lo : Nat → Int64} {fa : Nat → Int32} {we : Nat → Int32} {ti : Nat → Int32} {ri : Nat → Int32} {jo : Nat → Int32} {nr : Nat} {ru : Nat → Int64} {rl : Nat → Int64} {oo : Nat → Int64} {th : Int32} {nf : Nat} {bw : Int32} {bd : Int32} {nt : Nat} {rd : Nat → Int32} {ma : Nat → Int32} {mb : Nat → Int32} {mc : Nat → Int32} {co : Nat → Int32} {jn : Nat → Int32} {ro : Nat → Int32} {md : Nat → Int32} {mh : Nat → Int32} (hsX : sX k a w ) (hsP : sP k a w n up lo fa we ti ri jo) (hsR : sR k a w nr ru rl) (hsO : sO k a w oo) (hsD : sD k a w th n nr nf bw bd nt) (hsDP : sDP k a w rd ma mb mc co jn ro) (hsDR : sDR k a w md mh) (j : Nat) (h_1 : xs (ii + 1) = nI j) (hj : j < n) (hn : n ≤ 12) (hr8 : nr ≤ 8) (ht : 0 < lo j) (hf : ¬ fstF (rFitP ru rl (up j) (lo j)) nr 0 = -1) (hjD : j < n) (hnD : n ≤ 12) (hr8D : nr ≤ 8) (htD : 0 < mLo rd ma mb mc co j) (hfD : ¬ rwF (mFitP rd ma mb mc co md mh j) nr (-1) < 0) (hval : (fstF (rFitP ru rl (up j) (lo j)) nr 0).toInt64 = (rwF (mFitP rd ma mb mc co md mh j) nr (-1)).toInt64) {H : Heap} {locs : List Loc} {ls : Array Slot} (hG : gW D a w H) (hS : va_S (gF B0) s.heap H locs) (hl : lv_has ls 8 [(0, .ref b), (1, .ref (a 0)), (2, .ref (a 22)), (3, .ref (a 21)), (4, .int (nI ii))]) {cs ss : Nat} (hcs : cs + 1 ≤ 1087) (hss : ss + 6 ≤ 9297)
 (kk : ∀ (w' : Nat → va_E) (H' : Heap) (locs' : List Loc) (ls' : Array Slot) , sX k a w' → sP k a w' n up lo fa we ti (upd ri j (fstF (rFitP ru rl (up j) (lo j)) nr 0)) jo → sR k a w' nr ru rl → sO k a w' (vp_updL oo 0 ((fstF (rFitP ru rl (up j) (lo j)) nr 0).toInt64)) → sD k a w' 0 n nr nf bw bd nt → sDP k a w' rd ma mb mc co jn (upd ro j (rwF (mFitP rd ma mb mc co md mh j) nr (-1))) → sDR k a w' md mh → (∀ z, ((z < 1 ∨ 8 < z) ∧ z ≠ 21) ∧ (z < 22 ∨ 31 < z) → w' z = w z) → gW D a w' H' → va_S (gF B0) s.heap H' locs' → lv_has ls' 8 [(0, .ref b), (1, .ref (a 0)), (2, .ref (a 22)), (3, .ref (a 21)), (4, .int (nI ii))] → W p l e room_1 s m args below meth c H' locs' (cs + 0) (ss + 0) Q (F0 m 1235 ls' [])) : W p l e room_1 s m args below meth c H locs cs ss Q (F0 m 599 ls []) := by
  have hsX0 := hsX
  obtain ⟨hsP1, hsP2, hsP3, hsP4, hsP5, hsP6, hsP7, hsP8⟩ := hsP
  obtain ⟨hsR9, hsR10, hsR11⟩ := hsR
  have hsO21 := hsO
  have hsD22 := hsD
  obtain ⟨hsDP23, hsDP24, hsDP25, hsDP26, hsDP27, hsDP28, hsDP29⟩ := hsDP
  obtain ⟨hsDR30, hsDR31⟩ := hsDR
  refine lv_aload_n hx hb dL_law_599 rfl (lv_at hl 1 rfl) ?_
  refine lv_aload_n hx hb dL_law_600 rfl (lv_at hl 0 rfl) ?_
  refine lv_iload hx hb dL_law_601 (lv_at hl 4 rfl) ?_
  refine lv_iconst (v := 1) hx hb dL_law_603 (by decide) ?_
  refine ln_iadd (x := ii) (y := 1) hx hb dL_law_604 ?_
  refine l_sld (v := nI j) hx hb hX hbl hbA hS (j := ii + 1) (by omega) (by omega) h_1 dL_law_605 ?_
  refine lv_aload_n hx hb dL_law_606 rfl (lv_at hl 3 rfl) ?_
  refine h_Si (As := [.ref (a 0), .int (nI j), .ref (a 21)]) (rest := []) (kL_riser_k hA hsX0 ⟨hsP1, hsP2, hsP3, hsP4, hsP5, hsP6, hsP7, hsP8⟩ ⟨hsR9, hsR10, hsR11⟩ hsO21 j hj hn hr8 ht hf) calL_riser mlL_115 hx hb hml hown hts hB hG hK hS ⟨by decide, by decide⟩ rfl hl.1 rfl (Nat.le_of_ble_eq_true rfl) dL_law_607 ⟨by show cs + 0 ≤ 1087; omega, by show ss + 0 ≤ 9297; omega⟩ (fun r1 w2 H locs hp3 hG hS => ?_)
  obtain ⟨er13, ⟨h4, h5, h6, h7, h8, h9, h10, h11⟩, h12, hfr14⟩ := hp3
  have h15 : w2 0 = .inr (0, [.ref (a 1), .ref (a 9), .ref (a 12), .ref (a 15)]) := (hfr14 0 (by omega)).trans hsX0
  have h16 : w2 9 = .inr (2, [.ref (a 10), .ref (a 11), .int (nI nr)]) := (hfr14 9 (by omega)).trans hsR9
  have h17 : w2 10 = .inl (k.2.1, 8, .inr (.inl ru)) := (hfr14 10 (by omega)).trans hsR10
  have h18 : w2 11 = .inl (k.2.1, 8, .inr (.inl rl)) := (hfr14 11 (by omega)).trans hsR11
  have h19 : w2 22 = .inr (5, [.int th, .int (nI n), .ref (a 23), .ref (a 24), .ref (a 25), .ref (a 26), .ref (a 27), .ref (a 28), .ref (a 29), .int (nI nr), .ref (a 30), .ref (a 31), .int (nI nf), .ref (a 32), .ref (a 33), .int bw, .int bd, .int (nI nt), .ref (a 34), .ref (a 35), .ref (a 36), .ref (a 37)]) := (hfr14 22 (by omega)).trans hsD22
  have h20 : w2 23 = .inl (k.2.2, 12, .inl rd) := (hfr14 23 (by omega)).trans hsDP23
  have h21 : w2 24 = .inl (k.1, 12, .inl ma) := (hfr14 24 (by omega)).trans hsDP24
  have h22 : w2 25 = .inl (k.1, 12, .inl mb) := (hfr14 25 (by omega)).trans hsDP25
  have h23 : w2 26 = .inl (k.1, 12, .inl mc) := (hfr14 26 (by omega)).trans hsDP26
  have h24 : w2 27 = .inl (k.1, 72, .inl co) := (hfr14 27 (by omega)).trans hsDP27
  have h25 : w2 28 = .inl (k.1, 12, .inl jn) := (hfr14 28 (by omega)).trans hsDP28
  have h26 : w2 29 = .inl (k.1, 12, .inl ro) := (hfr14 29 (by omega)).trans hsDP29
  have h27 : w2 30 = .inl (k.1, 8, .inl md) := (hfr14 30 (by omega)).trans hsDR30
  have h28 : w2 31 = .inl (k.1, 8, .inl mh) := (hfr14 31 (by omega)).trans hsDR31
  rw [er13]
  refine lv_istore (lv' := [(5, .int 0), (0, .ref b), (1, .ref (a 0)), (2, .ref (a 22)), (3, .ref (a 21)), (4, .int (nI ii))]) hx hb dL_law_610 hl (by decide) rfl (fun ls hl => ?_)
  refine lv_aload_n hx hb dL_law_612 rfl (lv_at hl 3 rfl) ?_
  refine lv_aload_n hx hb dL_law_613 rfl (lv_at hl 1 rfl) ?_
  refine lv_iload hx hb dL_law_614 (lv_at hl 5 rfl) ?_
  refine lv_iconst (v := 1) hx hb dL_law_616 (by decide) ?_
  refine ln_iadd (x := ii) (y := 1) hx hb dL_law_617 ?_
  refine l_sld (v := nI j) hx hb hX hbl hbA hS (j := ii + 1) (by omega) (by omega) h_1 dL_law_618 ?_
  refine g_Vi (i := 22) (As := [.int (nI j)]) (rest := []) (kD_riser_k hA h19 ⟨h20, h21, h22, h23, h24, h25, h26⟩ ⟨h27, h28⟩ j hjD hnD hr8D htD hfD) calD_riser cvD_riser mlL_117 hx hb hml hown hts hB hG hK hS (by decide) h19 rfl ⟨by decide, by decide⟩ rfl hl.1 rfl (Nat.le_of_ble_eq_true rfl) dL_law_619 ⟨by show cs + 0 + 0 ≤ 1087; omega, by show ss + 0 + 0 ≤ 9297; omega⟩ (fun r29 w30 H locs hp31 hG hS => ?_)
  obtain ⟨er42, h32, ⟨h33, h34, h35, h36, h37, h38, h39⟩, ⟨h40, h41⟩, hfr43⟩ := hp31
  have h44 : w30 0 = .inr (0, [.ref (a 1), .ref (a 9), .ref (a 12), .ref (a 15)]) := (hfr43 0 (by omega)).trans h15
  have h45 : w30 1 = .inr (1, [.ref (a 2), .ref (a 3), .ref (a 4), .ref (a 5), .ref (a 6), .ref (a 7), .ref (a 8), .int (nI n)]) := (hfr43 1 (by omega)).trans h4
  have h46 : w30 2 = .inl (k.2.1, 12, .inr (.inl up)) := (hfr43 2 (by omega)).trans h5
  have h47 : w30 3 = .inl (k.2.1, 12, .inr (.inl lo)) := (hfr43 3 (by omega)).trans h6
  have h48 : w30 4 = .inl (k.1, 12, .inl fa) := (hfr43 4 (by omega)).trans h7
  have h49 : w30 5 = .inl (k.1, 72, .inl we) := (hfr43 5 (by omega)).trans h8
  have h50 : w30 6 = .inl (k.1, 72, .inl ti) := (hfr43 6 (by omega)).trans h9
  have h51 : w30 7 = .inl (k.1, 12, .inl (upd ri j (fstF (rFitP ru rl (up j) (lo j)) nr 0))) := (hfr43 7 (by omega)).trans h10
  have h52 : w30 8 = .inl (k.2.2, 144, .inl jo) := (hfr43 8 (by omega)).trans h11
  have h53 : w30 9 = .inr (2, [.ref (a 10), .ref (a 11), .int (nI nr)]) := (hfr43 9 (by omega)).trans h16
  have h54 : w30 10 = .inl (k.2.1, 8, .inr (.inl ru)) := (hfr43 10 (by omega)).trans h17
  have h55 : w30 11 = .inl (k.2.1, 8, .inr (.inl rl)) := (hfr43 11 (by omega)).trans h18
  have h56 : w30 21 = .inl (k.2.1, 1, .inr (.inl (vp_updL oo 0 ((fstF (rFitP ru rl (up j) (lo j)) nr 0).toInt64)))) := (hfr43 21 (by omega)).trans h12
  rw [er42]
  refine lv_istore (lv' := [(6, .int (rwF (mFitP rd ma mb mc co md mh j) nr (-1))), (5, .int 0), (0, .ref b), (1, .ref (a 0)), (2, .ref (a 22)), (3, .ref (a 21)), (4, .int (nI ii))]) hx hb dL_law_622 hl (by decide) rfl (fun ls hl => ?_)
  refine lv_aload_n hx hb dL_law_624 rfl (lv_at hl 4 rfl) ?_
  refine g_ViR (i := 22) (As := []) (rest := []) (kD_thrown hA h32) calD_thrown cvD_thrown mlL_89 hx hb hml hown hts hB hG hK hS (by decide) h32 rfl ⟨by decide, by decide⟩ rfl hl.1 rfl (Nat.le_of_ble_eq_true rfl) dL_law_625 ⟨by show cs + 0 + 0 + 0 ≤ 1087; omega, by show ss + 0 + 0 + 0 ≤ 9297; omega⟩ (fun H locs hG hS => ?_)
  refine lv_iload hx hb dL_law_628 (lv_at hl 1 rfl) ?_
  refine lv_icmp_eq (tgt := 635) hx hb dL_law_630 (by decide) (fun _ => ?_) (fun h9 => absurd h9 (by decide))
  refine lv_iload hx hb dL_law_635 (lv_at hl 1 rfl) ?_
  refine lv_if_ne (tgt := 652) hx hb dL_law_637 (by decide) (fun h9 => absurd h9 (by decide)) (fun _ => ?_)
  refine lv_aload_n hx hb dL_law_640 rfl (lv_at hl 5 rfl) ?_
  refine lv_iconst (v := 0) hx hb dL_law_641 (by decide) ?_
  refine g_lald hx hb hK hG 21 (by decide) h56 (j := 0) (by omega) (by decide) dL_law_642 ?_
  refine lv_iload hx hb dL_law_643 (lv_at hl 0 rfl) ?_
  refine lv_i2l hx hb dL_law_645 rfl ?_
  refine W.lcmp hx hb dL_law_646 ?_
  refine lc_if_eq (tgt := 652) hx hb dL_law_647 (by decide) (fun c59 => ?_) (fun c59 => (absurd (pk_uLs.trans hval) c59))
  refine lv_goto (tgt := 1235) hx hb dL_law_652 (by decide) ?_
  exact kk _ _ _ _  h44 ⟨h45, h46, h47, h48, h49, h50, h51, h52⟩ ⟨h53, h54, h55⟩ h56 h32 ⟨h33, h34, h35, h36, h37, h38, h39⟩ ⟨h40, h41⟩  (fun z hz => (hfr43 z hz.2).trans (hfr14 z hz.1)) hG hS (lv_sub hl [2, 3, 4, 5, 6] rfl)

set_option maxRecDepth 100000 in
set_option maxHeartbeats 4000000 in
theorem st_riser_p {p : Program} {l : Launch} {e : Env} {s : State} {m : MethodId} {args : Array Value} {below : List Frame} {meth : Method} {c : Code} {Q : State → Prop} (hl9 : l.stackTraces = false) {D : va_G} {k : ClassId × ClassId × ClassId} {a : Nat → Nat} {B0 : Nat} {w : Nat → va_E} (hA : gA B0 a) (hx : p.tables.exec = Jvm.exec) (hb : c.code = cL_law) (hml : c.maxLocals = 8) (hown : s.vm.findClass RL = some m.cls) (hts : ∀ w ∈ TB, w.before args s = true) (hB : B0 ≤ s.heap.size) (hK : va_K D vwCl (gT k) s) (hXS : xS B0 s) {b Ls : Nat} {xs : Nat → Int32} (hX : va_X b Ls xs s s.heap) (hbl : b < s.heap.size) (hbA : ¬ gF B0 b) (hL9 : Ls ≤ 2048) {ii : Nat} (hi4 : ii + 4 ≤ Ls) {n : Nat} {up : Nat → Int64} {lo : Nat → Int64} {fa : Nat → Int32} {we : Nat → Int32} {ti : Nat → Int32} {ri : Nat → Int32} {jo : Nat → Int32} {nr : Nat} {ru : Nat → Int64} {rl : Nat → Int64} {th : Int32} {nf : Nat} {bw : Int32} {bd : Int32} {nt : Nat} {rd : Nat → Int32} {ma : Nat → Int32} {mb : Nat → Int32} {mc : Nat → Int32} {co : Nat → Int32} {jn : Nat → Int32} {ro : Nat → Int32} {md : Nat → Int32} {mh : Nat → Int32} (hsX : sX k a w ) (hsP : sP k a w n up lo fa we ti ri jo) (hsR : sR k a w nr ru rl) (hsD : sD k a w th n nr nf bw bd nt) (hsDP : sDP k a w rd ma mb mc co jn ro) (hsDR : sDR k a w md mh) (q : Int32) (h_1 : xs (ii + 1) = q) (hq : ¬ (¬ q < 0 ∧ ¬ nI n ≤ q)) (hqD : ¬ rngI q 0 (nI n - 1)) {H : Heap} {locs : List Loc} {ls : Array Slot} (hG : gW D a w H) (hS : va_S (gF B0) s.heap H locs) (hl : lv_has ls 8 [(0, .ref b), (1, .ref (a 0)), (2, .ref (a 22)), (3, .ref (a 21)), (4, .int (nI ii))]) {cs ss : Nat} (hcs : cs + 1 ≤ 1087) (hss : ss + 6 ≤ 9297)
 (kk : ∀ (w' : Nat → va_E) (H' : Heap) (locs' : List Loc) (ls' : Array Slot) , sX k a w' → sP k a w' n up lo fa we ti ri jo → sR k a w' nr ru rl → sD k a w' 1 n nr nf bw bd nt → sDP k a w' rd ma mb mc co jn ro → sDR k a w' md mh → (∀ z, (z < 22 ∨ 31 < z) → w' z = w z) → gW D a w' H' → va_S (gF B0) s.heap H' locs' → lv_has ls' 8 [(0, .ref b), (1, .ref (a 0)), (2, .ref (a 22)), (3, .ref (a 21)), (4, .int (nI ii))] → W p l e room_1 s m args below meth c H' locs' (cs + 1) (ss + 6) Q (F0 m 1235 ls' [])) : W p l e room_1 s m args below meth c H locs cs ss Q (F0 m 599 ls []) := by
  have hsX0 := hsX
  obtain ⟨hsP1, hsP2, hsP3, hsP4, hsP5, hsP6, hsP7, hsP8⟩ := hsP
  obtain ⟨hsR9, hsR10, hsR11⟩ := hsR
  have hsD22 := hsD
  obtain ⟨hsDP23, hsDP24, hsDP25, hsDP26, hsDP27, hsDP28, hsDP29⟩ := hsDP
  obtain ⟨hsDR30, hsDR31⟩ := hsDR
  refine lv_aload_n hx hb dL_law_599 rfl (lv_at hl 1 rfl) ?_
  refine lv_aload_n hx hb dL_law_600 rfl (lv_at hl 0 rfl) ?_
  refine lv_iload hx hb dL_law_601 (lv_at hl 4 rfl) ?_
  refine lv_iconst (v := 1) hx hb dL_law_603 (by decide) ?_
  refine ln_iadd (x := ii) (y := 1) hx hb dL_law_604 ?_
  refine l_sld (v := q) hx hb hX hbl hbA hS (j := ii + 1) (by omega) (by omega) h_1 dL_law_605 ?_
  refine lv_aload_n hx hb dL_law_606 rfl (lv_at hl 3 rfl) ?_
  refine y_Si (As := [.ref (a 0), .int q, .ref (a 21)]) (rest := []) (kL_riser_p hl9 hA hsX0 ⟨hsP1, hsP2, hsP3, hsP4, hsP5, hsP6, hsP7, hsP8⟩ ⟨hsR9, hsR10, hsR11⟩ q hq) calL_riser mlL_115 hx hb hml hown hts hB hG hK hS hXS ⟨by decide, by decide⟩ rfl hl.1 rfl (Nat.le_of_ble_eq_true rfl) dL_law_607 ⟨by show cs + 1 ≤ 1087; omega, by show ss + 6 ≤ 9297; omega⟩ (fun H locs hG hS => ?_)
  refine lv_istore (lv' := [(5, .int 1), (0, .ref b), (1, .ref (a 0)), (2, .ref (a 22)), (3, .ref (a 21)), (4, .int (nI ii))]) hx hb dL_law_610 hl (by decide) rfl (fun ls hl => ?_)
  refine lv_aload_n hx hb dL_law_612 rfl (lv_at hl 3 rfl) ?_
  refine lv_aload_n hx hb dL_law_613 rfl (lv_at hl 1 rfl) ?_
  refine lv_iload hx hb dL_law_614 (lv_at hl 5 rfl) ?_
  refine lv_iconst (v := 1) hx hb dL_law_616 (by decide) ?_
  refine ln_iadd (x := ii) (y := 1) hx hb dL_law_617 ?_
  refine l_sld (v := q) hx hb hX hbl hbA hS (j := ii + 1) (by omega) (by omega) h_1 dL_law_618 ?_
  refine g_Vi (i := 22) (As := [.int q]) (rest := []) (kD_riser_p hA hsD22 ⟨hsDP23, hsDP24, hsDP25, hsDP26, hsDP27, hsDP28, hsDP29⟩ ⟨hsDR30, hsDR31⟩ q hqD) calD_riser cvD_riser mlL_117 hx hb hml hown hts hB hG hK hS (by decide) hsD22 rfl ⟨by decide, by decide⟩ rfl hl.1 rfl (Nat.le_of_ble_eq_true rfl) dL_law_619 ⟨by show cs + 1 + 0 ≤ 1087; omega, by show ss + 6 + 0 ≤ 9297; omega⟩ (fun r1 w2 H locs hp3 hG hS => ?_)
  obtain ⟨er14, h4, ⟨h5, h6, h7, h8, h9, h10, h11⟩, ⟨h12, h13⟩, hfr15⟩ := hp3
  have h16 : w2 0 = .inr (0, [.ref (a 1), .ref (a 9), .ref (a 12), .ref (a 15)]) := (hfr15 0 (by omega)).trans hsX0
  have h17 : w2 1 = .inr (1, [.ref (a 2), .ref (a 3), .ref (a 4), .ref (a 5), .ref (a 6), .ref (a 7), .ref (a 8), .int (nI n)]) := (hfr15 1 (by omega)).trans hsP1
  have h18 : w2 2 = .inl (k.2.1, 12, .inr (.inl up)) := (hfr15 2 (by omega)).trans hsP2
  have h19 : w2 3 = .inl (k.2.1, 12, .inr (.inl lo)) := (hfr15 3 (by omega)).trans hsP3
  have h20 : w2 4 = .inl (k.1, 12, .inl fa) := (hfr15 4 (by omega)).trans hsP4
  have h21 : w2 5 = .inl (k.1, 72, .inl we) := (hfr15 5 (by omega)).trans hsP5
  have h22 : w2 6 = .inl (k.1, 72, .inl ti) := (hfr15 6 (by omega)).trans hsP6
  have h23 : w2 7 = .inl (k.1, 12, .inl ri) := (hfr15 7 (by omega)).trans hsP7
  have h24 : w2 8 = .inl (k.2.2, 144, .inl jo) := (hfr15 8 (by omega)).trans hsP8
  have h25 : w2 9 = .inr (2, [.ref (a 10), .ref (a 11), .int (nI nr)]) := (hfr15 9 (by omega)).trans hsR9
  have h26 : w2 10 = .inl (k.2.1, 8, .inr (.inl ru)) := (hfr15 10 (by omega)).trans hsR10
  have h27 : w2 11 = .inl (k.2.1, 8, .inr (.inl rl)) := (hfr15 11 (by omega)).trans hsR11
  rw [er14]
  refine lv_istore (lv' := [(6, .int 0), (5, .int 1), (0, .ref b), (1, .ref (a 0)), (2, .ref (a 22)), (3, .ref (a 21)), (4, .int (nI ii))]) hx hb dL_law_622 hl (by decide) rfl (fun ls hl => ?_)
  refine lv_aload_n hx hb dL_law_624 rfl (lv_at hl 4 rfl) ?_
  refine g_ViR (i := 22) (As := []) (rest := []) (kD_thrown hA h4) calD_thrown cvD_thrown mlL_89 hx hb hml hown hts hB hG hK hS (by decide) h4 rfl ⟨by decide, by decide⟩ rfl hl.1 rfl (Nat.le_of_ble_eq_true rfl) dL_law_625 ⟨by show cs + 1 + 0 + 0 ≤ 1087; omega, by show ss + 6 + 0 + 0 ≤ 9297; omega⟩ (fun H locs hG hS => ?_)
  refine lv_iload hx hb dL_law_628 (lv_at hl 1 rfl) ?_
  refine lv_icmp_eq (tgt := 635) hx hb dL_law_630 (by decide) (fun _ => ?_) (fun h9 => absurd h9 (by decide))
  refine lv_iload hx hb dL_law_635 (lv_at hl 1 rfl) ?_
  refine lv_if_ne (tgt := 652) hx hb dL_law_637 (by decide) (fun _ => ?_) (fun h9 => absurd h9 (by decide))
  refine lv_goto (tgt := 1235) hx hb dL_law_652 (by decide) ?_
  exact kk _ _ _ _  h16 ⟨h17, h18, h19, h20, h21, h22, h23, h24⟩ ⟨h25, h26, h27⟩ h4 ⟨h5, h6, h7, h8, h9, h10, h11⟩ ⟨h12, h13⟩  hfr15 hG hS (lv_sub hl [2, 3, 4, 5, 6] rfl)

set_option maxRecDepth 100000 in
set_option maxHeartbeats 4000000 in
theorem st_riser_t {p : Program} {l : Launch} {e : Env} {s : State} {m : MethodId} {args : Array Value} {below : List Frame} {meth : Method} {c : Code} {Q : State → Prop} (hl9 : l.stackTraces = false) {D : va_G} {k : ClassId × ClassId × ClassId} {a : Nat → Nat} {B0 : Nat} {w : Nat → va_E} (hA : gA B0 a) (hx : p.tables.exec = Jvm.exec) (hb : c.code = cL_law) (hml : c.maxLocals = 8) (hown : s.vm.findClass RL = some m.cls) (hts : ∀ w ∈ TB, w.before args s = true) (hB : B0 ≤ s.heap.size) (hK : va_K D vwCl (gT k) s) (hXS : xS B0 s) {b Ls : Nat} {xs : Nat → Int32} (hX : va_X b Ls xs s s.heap) (hbl : b < s.heap.size) (hbA : ¬ gF B0 b) (hL9 : Ls ≤ 2048) {ii : Nat} (hi4 : ii + 4 ≤ Ls) {n : Nat} {up : Nat → Int64} {lo : Nat → Int64} {fa : Nat → Int32} {we : Nat → Int32} {ti : Nat → Int32} {ri : Nat → Int32} {jo : Nat → Int32} {nr : Nat} {ru : Nat → Int64} {rl : Nat → Int64} {th : Int32} {nf : Nat} {bw : Int32} {bd : Int32} {nt : Nat} {rd : Nat → Int32} {ma : Nat → Int32} {mb : Nat → Int32} {mc : Nat → Int32} {co : Nat → Int32} {jn : Nat → Int32} {ro : Nat → Int32} {md : Nat → Int32} {mh : Nat → Int32} (hsX : sX k a w ) (hsP : sP k a w n up lo fa we ti ri jo) (hsR : sR k a w nr ru rl) (hsD : sD k a w th n nr nf bw bd nt) (hsDP : sDP k a w rd ma mb mc co jn ro) (hsDR : sDR k a w md mh) (j : Nat) (h_1 : xs (ii + 1) = nI j) (hj : j < n) (hn : n ≤ 12) (ht : ¬ 0 < lo j) (hjD : j < n) (hnD : n ≤ 12) (htD : ¬ 0 < mLo rd ma mb mc co j) {H : Heap} {locs : List Loc} {ls : Array Slot} (hG : gW D a w H) (hS : va_S (gF B0) s.heap H locs) (hl : lv_has ls 8 [(0, .ref b), (1, .ref (a 0)), (2, .ref (a 22)), (3, .ref (a 21)), (4, .int (nI ii))]) {cs ss : Nat} (hcs : cs + 1 ≤ 1087) (hss : ss + 6 ≤ 9297)
 (kk : ∀ (w' : Nat → va_E) (H' : Heap) (locs' : List Loc) (ls' : Array Slot) , sX k a w' → sP k a w' n up lo fa we ti ri jo → sR k a w' nr ru rl → sD k a w' 2 n nr nf bw bd nt → sDP k a w' rd ma mb mc co jn ro → sDR k a w' md mh → (∀ z, (z < 22 ∨ 31 < z) → w' z = w z) → gW D a w' H' → va_S (gF B0) s.heap H' locs' → lv_has ls' 8 [(0, .ref b), (1, .ref (a 0)), (2, .ref (a 22)), (3, .ref (a 21)), (4, .int (nI ii))] → W p l e room_1 s m args below meth c H' locs' (cs + 1) (ss + 6) Q (F0 m 1235 ls' [])) : W p l e room_1 s m args below meth c H locs cs ss Q (F0 m 599 ls []) := by
  have hsX0 := hsX
  obtain ⟨hsP1, hsP2, hsP3, hsP4, hsP5, hsP6, hsP7, hsP8⟩ := hsP
  obtain ⟨hsR9, hsR10, hsR11⟩ := hsR
  have hsD22 := hsD
  obtain ⟨hsDP23, hsDP24, hsDP25, hsDP26, hsDP27, hsDP28, hsDP29⟩ := hsDP
  obtain ⟨hsDR30, hsDR31⟩ := hsDR
  refine lv_aload_n hx hb dL_law_599 rfl (lv_at hl 1 rfl) ?_
  refine lv_aload_n hx hb dL_law_600 rfl (lv_at hl 0 rfl) ?_
  refine lv_iload hx hb dL_law_601 (lv_at hl 4 rfl) ?_
  refine lv_iconst (v := 1) hx hb dL_law_603 (by decide) ?_
  refine ln_iadd (x := ii) (y := 1) hx hb dL_law_604 ?_
  refine l_sld (v := nI j) hx hb hX hbl hbA hS (j := ii + 1) (by omega) (by omega) h_1 dL_law_605 ?_
  refine lv_aload_n hx hb dL_law_606 rfl (lv_at hl 3 rfl) ?_
  refine y_Si (As := [.ref (a 0), .int (nI j), .ref (a 21)]) (rest := []) (kL_riser_t hl9 hA hsX0 ⟨hsP1, hsP2, hsP3, hsP4, hsP5, hsP6, hsP7, hsP8⟩ ⟨hsR9, hsR10, hsR11⟩ j hj hn ht) calL_riser mlL_115 hx hb hml hown hts hB hG hK hS hXS ⟨by decide, by decide⟩ rfl hl.1 rfl (Nat.le_of_ble_eq_true rfl) dL_law_607 ⟨by show cs + 1 ≤ 1087; omega, by show ss + 6 ≤ 9297; omega⟩ (fun H locs hG hS => ?_)
  refine lv_istore (lv' := [(5, .int 2), (0, .ref b), (1, .ref (a 0)), (2, .ref (a 22)), (3, .ref (a 21)), (4, .int (nI ii))]) hx hb dL_law_610 hl (by decide) rfl (fun ls hl => ?_)
  refine lv_aload_n hx hb dL_law_612 rfl (lv_at hl 3 rfl) ?_
  refine lv_aload_n hx hb dL_law_613 rfl (lv_at hl 1 rfl) ?_
  refine lv_iload hx hb dL_law_614 (lv_at hl 5 rfl) ?_
  refine lv_iconst (v := 1) hx hb dL_law_616 (by decide) ?_
  refine ln_iadd (x := ii) (y := 1) hx hb dL_law_617 ?_
  refine l_sld (v := nI j) hx hb hX hbl hbA hS (j := ii + 1) (by omega) (by omega) h_1 dL_law_618 ?_
  refine g_Vi (i := 22) (As := [.int (nI j)]) (rest := []) (kD_riser_t hA hsD22 ⟨hsDP23, hsDP24, hsDP25, hsDP26, hsDP27, hsDP28, hsDP29⟩ ⟨hsDR30, hsDR31⟩ j hjD hnD htD) calD_riser cvD_riser mlL_117 hx hb hml hown hts hB hG hK hS (by decide) hsD22 rfl ⟨by decide, by decide⟩ rfl hl.1 rfl (Nat.le_of_ble_eq_true rfl) dL_law_619 ⟨by show cs + 1 + 0 ≤ 1087; omega, by show ss + 6 + 0 ≤ 9297; omega⟩ (fun r1 w2 H locs hp3 hG hS => ?_)
  obtain ⟨er14, h4, ⟨h5, h6, h7, h8, h9, h10, h11⟩, ⟨h12, h13⟩, hfr15⟩ := hp3
  have h16 : w2 0 = .inr (0, [.ref (a 1), .ref (a 9), .ref (a 12), .ref (a 15)]) := (hfr15 0 (by omega)).trans hsX0
  have h17 : w2 1 = .inr (1, [.ref (a 2), .ref (a 3), .ref (a 4), .ref (a 5), .ref (a 6), .ref (a 7), .ref (a 8), .int (nI n)]) := (hfr15 1 (by omega)).trans hsP1
  have h18 : w2 2 = .inl (k.2.1, 12, .inr (.inl up)) := (hfr15 2 (by omega)).trans hsP2
  have h19 : w2 3 = .inl (k.2.1, 12, .inr (.inl lo)) := (hfr15 3 (by omega)).trans hsP3
  have h20 : w2 4 = .inl (k.1, 12, .inl fa) := (hfr15 4 (by omega)).trans hsP4
  have h21 : w2 5 = .inl (k.1, 72, .inl we) := (hfr15 5 (by omega)).trans hsP5
  have h22 : w2 6 = .inl (k.1, 72, .inl ti) := (hfr15 6 (by omega)).trans hsP6
  have h23 : w2 7 = .inl (k.1, 12, .inl ri) := (hfr15 7 (by omega)).trans hsP7
  have h24 : w2 8 = .inl (k.2.2, 144, .inl jo) := (hfr15 8 (by omega)).trans hsP8
  have h25 : w2 9 = .inr (2, [.ref (a 10), .ref (a 11), .int (nI nr)]) := (hfr15 9 (by omega)).trans hsR9
  have h26 : w2 10 = .inl (k.2.1, 8, .inr (.inl ru)) := (hfr15 10 (by omega)).trans hsR10
  have h27 : w2 11 = .inl (k.2.1, 8, .inr (.inl rl)) := (hfr15 11 (by omega)).trans hsR11
  rw [er14]
  refine lv_istore (lv' := [(6, .int 0), (5, .int 2), (0, .ref b), (1, .ref (a 0)), (2, .ref (a 22)), (3, .ref (a 21)), (4, .int (nI ii))]) hx hb dL_law_622 hl (by decide) rfl (fun ls hl => ?_)
  refine lv_aload_n hx hb dL_law_624 rfl (lv_at hl 4 rfl) ?_
  refine g_ViR (i := 22) (As := []) (rest := []) (kD_thrown hA h4) calD_thrown cvD_thrown mlL_89 hx hb hml hown hts hB hG hK hS (by decide) h4 rfl ⟨by decide, by decide⟩ rfl hl.1 rfl (Nat.le_of_ble_eq_true rfl) dL_law_625 ⟨by show cs + 1 + 0 + 0 ≤ 1087; omega, by show ss + 6 + 0 + 0 ≤ 9297; omega⟩ (fun H locs hG hS => ?_)
  refine lv_iload hx hb dL_law_628 (lv_at hl 1 rfl) ?_
  refine lv_icmp_eq (tgt := 635) hx hb dL_law_630 (by decide) (fun _ => ?_) (fun h9 => absurd h9 (by decide))
  refine lv_iload hx hb dL_law_635 (lv_at hl 1 rfl) ?_
  refine lv_if_ne (tgt := 652) hx hb dL_law_637 (by decide) (fun _ => ?_) (fun h9 => absurd h9 (by decide))
  refine lv_goto (tgt := 1235) hx hb dL_law_652 (by decide) ?_
  exact kk _ _ _ _  h16 ⟨h17, h18, h19, h20, h21, h22, h23, h24⟩ ⟨h25, h26, h27⟩ h4 ⟨h5, h6, h7, h8, h9, h10, h11⟩ ⟨h12, h13⟩  hfr15 hG hS (lv_sub hl [2, 3, 4, 5, 6] rfl)

set_option maxRecDepth 100000 in
set_option maxHeartbeats 4000000 in
theorem st_riser_r {p : Program} {l : Launch} {e : Env} {s : State} {m : MethodId} {args : Array Value} {below : List Frame} {meth : Method} {c : Code} {Q : State → Prop} (hl9 : l.stackTraces = false) {D : va_G} {k : ClassId × ClassId × ClassId} {a : Nat → Nat} {B0 : Nat} {w : Nat → va_E} (hA : gA B0 a) (hx : p.tables.exec = Jvm.exec) (hb : c.code = cL_law) (hml : c.maxLocals = 8) (hown : s.vm.findClass RL = some m.cls) (hts : ∀ w ∈ TB, w.before args s = true) (hB : B0 ≤ s.heap.size) (hK : va_K D vwCl (gT k) s) (hXS : xS B0 s) {b Ls : Nat} {xs : Nat → Int32} (hX : va_X b Ls xs s s.heap) (hbl : b < s.heap.size) (hbA : ¬ gF B0 b) (hL9 : Ls ≤ 2048) {ii : Nat} (hi4 : ii + 4 ≤ Ls) {n : Nat} {up : Nat → Int64} {lo : Nat → Int64} {fa : Nat → Int32} {we : Nat → Int32} {ti : Nat → Int32} {ri : Nat → Int32} {jo : Nat → Int32} {nr : Nat} {ru : Nat → Int64} {rl : Nat → Int64} {th : Int32} {nf : Nat} {bw : Int32} {bd : Int32} {nt : Nat} {rd : Nat → Int32} {ma : Nat → Int32} {mb : Nat → Int32} {mc : Nat → Int32} {co : Nat → Int32} {jn : Nat → Int32} {ro : Nat → Int32} {md : Nat → Int32} {mh : Nat → Int32} (hsX : sX k a w ) (hsP : sP k a w n up lo fa we ti ri jo) (hsR : sR k a w nr ru rl) (hsD : sD k a w th n nr nf bw bd nt) (hsDP : sDP k a w rd ma mb mc co jn ro) (hsDR : sDR k a w md mh) (j : Nat) (h_1 : xs (ii + 1) = nI j) (hj : j < n) (hn : n ≤ 12) (hr8 : nr ≤ 8) (ht : 0 < lo j) (hf : fstF (rFitP ru rl (up j) (lo j)) nr 0 = -1) (hjD : j < n) (hnD : n ≤ 12) (hr8D : nr ≤ 8) (htD : 0 < mLo rd ma mb mc co j) (hfD : rwF (mFitP rd ma mb mc co md mh j) nr (-1) < 0) {H : Heap} {locs : List Loc} {ls : Array Slot} (hG : gW D a w H) (hS : va_S (gF B0) s.heap H locs) (hl : lv_has ls 8 [(0, .ref b), (1, .ref (a 0)), (2, .ref (a 22)), (3, .ref (a 21)), (4, .int (nI ii))]) {cs ss : Nat} (hcs : cs + 1 ≤ 1087) (hss : ss + 6 ≤ 9297)
 (kk : ∀ (w' : Nat → va_E) (H' : Heap) (locs' : List Loc) (ls' : Array Slot) , sX k a w' → sP k a w' n up lo fa we ti ri jo → sR k a w' nr ru rl → sD k a w' 2 n nr nf bw bd nt → sDP k a w' rd ma mb mc co jn ro → sDR k a w' md mh → (∀ z, (z < 22 ∨ 31 < z) → w' z = w z) → gW D a w' H' → va_S (gF B0) s.heap H' locs' → lv_has ls' 8 [(0, .ref b), (1, .ref (a 0)), (2, .ref (a 22)), (3, .ref (a 21)), (4, .int (nI ii))] → W p l e room_1 s m args below meth c H' locs' (cs + 1) (ss + 6) Q (F0 m 1235 ls' [])) : W p l e room_1 s m args below meth c H locs cs ss Q (F0 m 599 ls []) := by
  have hsX0 := hsX
  obtain ⟨hsP1, hsP2, hsP3, hsP4, hsP5, hsP6, hsP7, hsP8⟩ := hsP
  obtain ⟨hsR9, hsR10, hsR11⟩ := hsR
  have hsD22 := hsD
  obtain ⟨hsDP23, hsDP24, hsDP25, hsDP26, hsDP27, hsDP28, hsDP29⟩ := hsDP
  obtain ⟨hsDR30, hsDR31⟩ := hsDR
  refine lv_aload_n hx hb dL_law_599 rfl (lv_at hl 1 rfl) ?_
  refine lv_aload_n hx hb dL_law_600 rfl (lv_at hl 0 rfl) ?_
  refine lv_iload hx hb dL_law_601 (lv_at hl 4 rfl) ?_
  refine lv_iconst (v := 1) hx hb dL_law_603 (by decide) ?_
  refine ln_iadd (x := ii) (y := 1) hx hb dL_law_604 ?_
  refine l_sld (v := nI j) hx hb hX hbl hbA hS (j := ii + 1) (by omega) (by omega) h_1 dL_law_605 ?_
  refine lv_aload_n hx hb dL_law_606 rfl (lv_at hl 3 rfl) ?_
  refine y_Si (As := [.ref (a 0), .int (nI j), .ref (a 21)]) (rest := []) (kL_riser_r hl9 hA hsX0 ⟨hsP1, hsP2, hsP3, hsP4, hsP5, hsP6, hsP7, hsP8⟩ ⟨hsR9, hsR10, hsR11⟩ j hj hn hr8 ht hf) calL_riser mlL_115 hx hb hml hown hts hB hG hK hS hXS ⟨by decide, by decide⟩ rfl hl.1 rfl (Nat.le_of_ble_eq_true rfl) dL_law_607 ⟨by show cs + 1 ≤ 1087; omega, by show ss + 6 ≤ 9297; omega⟩ (fun H locs hG hS => ?_)
  refine lv_istore (lv' := [(5, .int 2), (0, .ref b), (1, .ref (a 0)), (2, .ref (a 22)), (3, .ref (a 21)), (4, .int (nI ii))]) hx hb dL_law_610 hl (by decide) rfl (fun ls hl => ?_)
  refine lv_aload_n hx hb dL_law_612 rfl (lv_at hl 3 rfl) ?_
  refine lv_aload_n hx hb dL_law_613 rfl (lv_at hl 1 rfl) ?_
  refine lv_iload hx hb dL_law_614 (lv_at hl 5 rfl) ?_
  refine lv_iconst (v := 1) hx hb dL_law_616 (by decide) ?_
  refine ln_iadd (x := ii) (y := 1) hx hb dL_law_617 ?_
  refine l_sld (v := nI j) hx hb hX hbl hbA hS (j := ii + 1) (by omega) (by omega) h_1 dL_law_618 ?_
  refine g_Vi (i := 22) (As := [.int (nI j)]) (rest := []) (kD_riser_r hA hsD22 ⟨hsDP23, hsDP24, hsDP25, hsDP26, hsDP27, hsDP28, hsDP29⟩ ⟨hsDR30, hsDR31⟩ j hjD hnD hr8D htD hfD) calD_riser cvD_riser mlL_117 hx hb hml hown hts hB hG hK hS (by decide) hsD22 rfl ⟨by decide, by decide⟩ rfl hl.1 rfl (Nat.le_of_ble_eq_true rfl) dL_law_619 ⟨by show cs + 1 + 0 ≤ 1087; omega, by show ss + 6 + 0 ≤ 9297; omega⟩ (fun r1 w2 H locs hp3 hG hS => ?_)
  obtain ⟨er14, h4, ⟨h5, h6, h7, h8, h9, h10, h11⟩, ⟨h12, h13⟩, hfr15⟩ := hp3
  have h16 : w2 0 = .inr (0, [.ref (a 1), .ref (a 9), .ref (a 12), .ref (a 15)]) := (hfr15 0 (by omega)).trans hsX0
  have h17 : w2 1 = .inr (1, [.ref (a 2), .ref (a 3), .ref (a 4), .ref (a 5), .ref (a 6), .ref (a 7), .ref (a 8), .int (nI n)]) := (hfr15 1 (by omega)).trans hsP1
  have h18 : w2 2 = .inl (k.2.1, 12, .inr (.inl up)) := (hfr15 2 (by omega)).trans hsP2
  have h19 : w2 3 = .inl (k.2.1, 12, .inr (.inl lo)) := (hfr15 3 (by omega)).trans hsP3
  have h20 : w2 4 = .inl (k.1, 12, .inl fa) := (hfr15 4 (by omega)).trans hsP4
  have h21 : w2 5 = .inl (k.1, 72, .inl we) := (hfr15 5 (by omega)).trans hsP5
  have h22 : w2 6 = .inl (k.1, 72, .inl ti) := (hfr15 6 (by omega)).trans hsP6
  have h23 : w2 7 = .inl (k.1, 12, .inl ri) := (hfr15 7 (by omega)).trans hsP7
  have h24 : w2 8 = .inl (k.2.2, 144, .inl jo) := (hfr15 8 (by omega)).trans hsP8
  have h25 : w2 9 = .inr (2, [.ref (a 10), .ref (a 11), .int (nI nr)]) := (hfr15 9 (by omega)).trans hsR9
  have h26 : w2 10 = .inl (k.2.1, 8, .inr (.inl ru)) := (hfr15 10 (by omega)).trans hsR10
  have h27 : w2 11 = .inl (k.2.1, 8, .inr (.inl rl)) := (hfr15 11 (by omega)).trans hsR11
  rw [er14]
  refine lv_istore (lv' := [(6, .int 0), (5, .int 2), (0, .ref b), (1, .ref (a 0)), (2, .ref (a 22)), (3, .ref (a 21)), (4, .int (nI ii))]) hx hb dL_law_622 hl (by decide) rfl (fun ls hl => ?_)
  refine lv_aload_n hx hb dL_law_624 rfl (lv_at hl 4 rfl) ?_
  refine g_ViR (i := 22) (As := []) (rest := []) (kD_thrown hA h4) calD_thrown cvD_thrown mlL_89 hx hb hml hown hts hB hG hK hS (by decide) h4 rfl ⟨by decide, by decide⟩ rfl hl.1 rfl (Nat.le_of_ble_eq_true rfl) dL_law_625 ⟨by show cs + 1 + 0 + 0 ≤ 1087; omega, by show ss + 6 + 0 + 0 ≤ 9297; omega⟩ (fun H locs hG hS => ?_)
  refine lv_iload hx hb dL_law_628 (lv_at hl 1 rfl) ?_
  refine lv_icmp_eq (tgt := 635) hx hb dL_law_630 (by decide) (fun _ => ?_) (fun h9 => absurd h9 (by decide))
  refine lv_iload hx hb dL_law_635 (lv_at hl 1 rfl) ?_
  refine lv_if_ne (tgt := 652) hx hb dL_law_637 (by decide) (fun _ => ?_) (fun h9 => absurd h9 (by decide))
  refine lv_goto (tgt := 1235) hx hb dL_law_652 (by decide) ?_
  exact kk _ _ _ _  h16 ⟨h17, h18, h19, h20, h21, h22, h23, h24⟩ ⟨h25, h26, h27⟩ h4 ⟨h5, h6, h7, h8, h9, h10, h11⟩ ⟨h12, h13⟩  hfr15 hG hS (lv_sub hl [2, 3, 4, 5, 6] rfl)

set_option maxRecDepth 100000 in
set_option maxHeartbeats 4000000 in
theorem st_cutOff_k {p : Program} {l : Launch} {e : Env} {s : State} {m : MethodId} {args : Array Value} {below : List Frame} {meth : Method} {c : Code} {Q : State → Prop} (hl9 : l.stackTraces = false) {D : va_G} {k : ClassId × ClassId × ClassId} {a : Nat → Nat} {B0 : Nat} {w : Nat → va_E} (hA : gA B0 a) (hx : p.tables.exec = Jvm.exec) (hb : c.code = cL_law) (hml : c.maxLocals = 8) (hown : s.vm.findClass RL = some m.cls) (hts : ∀ w ∈ TB, w.before args s = true) (hB : B0 ≤ s.heap.size) (hK : va_K D vwCl (gT k) s) (hXS : xS B0 s) {b Ls : Nat} {xs : Nat → Int32} (hX : va_X b Ls xs s s.heap) (hbl : b < s.heap.size) (hbA : ¬ gF B0 b) (hL9 : Ls ≤ 2048) {ii : Nat} (hi4 : ii + 4 ≤ Ls) {n : Nat} {up : Nat → Int64} {lo : Nat → Int64} {fa : Nat → Int32} {we : Nat → Int32} {ti : Nat → Int32} {ri : Nat → Int32} {jo : Nat → Int32} {th : Int32} {nr : Nat} {nf : Nat} {bw : Int32} {bd : Int32} {nt : Nat} {rd : Nat → Int32} {ma : Nat → Int32} {mb : Nat → Int32} {mc : Nat → Int32} {co : Nat → Int32} {jn : Nat → Int32} {ro : Nat → Int32} (hsX : sX k a w ) (hsP : sP k a w n up lo fa we ti ri jo) (hsD : sD k a w th n nr nf bw bd nt) (hsDP : sDP k a w rd ma mb mc co jn ro) (j : Nat) (h_1 : xs (ii + 1) = nI j) (hj : j < n) (hn : n ≤ 12) (hr9 : ¬ ri j = -1) (hjD : j < n) (hnD : n ≤ 12) (hr9D : ¬ ro j < 0) {H : Heap} {locs : List Loc} {ls : Array Slot} (hG : gW D a w H) (hS : va_S (gF B0) s.heap H locs) (hl : lv_has ls 8 [(0, .ref b), (1, .ref (a 0)), (2, .ref (a 22)), (3, .ref (a 21)), (4, .int (nI ii))]) {cs ss : Nat} (hcs : cs + 1 ≤ 1087) (hss : ss + 6 ≤ 9297)
 (kk : ∀ (w' : Nat → va_E) (H' : Heap) (locs' : List Loc) (ls' : Array Slot) , sX k a w' → sP k a w' n up lo fa we ti (upd ri j (-1)) jo → sD k a w' 0 n nr nf bw bd nt → sDP k a w' rd ma mb mc co jn (upd ro j (-1)) → (∀ z, (z < 1 ∨ 8 < z) ∧ (z < 22 ∨ 29 < z) → w' z = w z) → gW D a w' H' → va_S (gF B0) s.heap H' locs' → lv_has ls' 8 [(0, .ref b), (1, .ref (a 0)), (2, .ref (a 22)), (3, .ref (a 21)), (4, .int (nI ii))] → W p l e room_1 s m args below meth c H' locs' (cs + 0) (ss + 0) Q (F0 m 1235 ls' [])) : W p l e room_1 s m args below meth c H locs cs ss Q (F0 m 655 ls []) := by
  have hsX0 := hsX
  obtain ⟨hsP1, hsP2, hsP3, hsP4, hsP5, hsP6, hsP7, hsP8⟩ := hsP
  have hsD22 := hsD
  obtain ⟨hsDP23, hsDP24, hsDP25, hsDP26, hsDP27, hsDP28, hsDP29⟩ := hsDP
  refine lv_aload_n hx hb dL_law_655 rfl (lv_at hl 1 rfl) ?_
  refine lv_aload_n hx hb dL_law_656 rfl (lv_at hl 0 rfl) ?_
  refine lv_iload hx hb dL_law_657 (lv_at hl 4 rfl) ?_
  refine lv_iconst (v := 1) hx hb dL_law_659 (by decide) ?_
  refine ln_iadd (x := ii) (y := 1) hx hb dL_law_660 ?_
  refine l_sld (v := nI j) hx hb hX hbl hbA hS (j := ii + 1) (by omega) (by omega) h_1 dL_law_661 ?_
  refine h_Si (As := [.ref (a 0), .int (nI j)]) (rest := []) (kL_cutOff_k hA hsX0 ⟨hsP1, hsP2, hsP3, hsP4, hsP5, hsP6, hsP7, hsP8⟩ j hj hn hr9) calL_cutOff mlL_118 hx hb hml hown hts hB hG hK hS ⟨by decide, by decide⟩ rfl hl.1 rfl (Nat.le_of_ble_eq_true rfl) dL_law_662 ⟨by show cs + 0 ≤ 1087; omega, by show ss + 0 ≤ 9297; omega⟩ (fun r1 w2 H locs hp3 hG hS => ?_)
  obtain ⟨er12, ⟨h4, h5, h6, h7, h8, h9, h10, h11⟩, hfr13⟩ := hp3
  have h14 : w2 0 = .inr (0, [.ref (a 1), .ref (a 9), .ref (a 12), .ref (a 15)]) := (hfr13 0 (by omega)).trans hsX0
  have h15 : w2 22 = .inr (5, [.int th, .int (nI n), .ref (a 23), .ref (a 24), .ref (a 25), .ref (a 26), .ref (a 27), .ref (a 28), .ref (a 29), .int (nI nr), .ref (a 30), .ref (a 31), .int (nI nf), .ref (a 32), .ref (a 33), .int bw, .int bd, .int (nI nt), .ref (a 34), .ref (a 35), .ref (a 36), .ref (a 37)]) := (hfr13 22 (by omega)).trans hsD22
  have h16 : w2 23 = .inl (k.2.2, 12, .inl rd) := (hfr13 23 (by omega)).trans hsDP23
  have h17 : w2 24 = .inl (k.1, 12, .inl ma) := (hfr13 24 (by omega)).trans hsDP24
  have h18 : w2 25 = .inl (k.1, 12, .inl mb) := (hfr13 25 (by omega)).trans hsDP25
  have h19 : w2 26 = .inl (k.1, 12, .inl mc) := (hfr13 26 (by omega)).trans hsDP26
  have h20 : w2 27 = .inl (k.1, 72, .inl co) := (hfr13 27 (by omega)).trans hsDP27
  have h21 : w2 28 = .inl (k.1, 12, .inl jn) := (hfr13 28 (by omega)).trans hsDP28
  have h22 : w2 29 = .inl (k.1, 12, .inl ro) := (hfr13 29 (by omega)).trans hsDP29
  rw [er12]
  refine lv_istore (lv' := [(5, .int 0), (0, .ref b), (1, .ref (a 0)), (2, .ref (a 22)), (3, .ref (a 21)), (4, .int (nI ii))]) hx hb dL_law_665 hl (by decide) rfl (fun ls hl => ?_)
  refine lv_aload_n hx hb dL_law_667 rfl (lv_at hl 3 rfl) ?_
  refine lv_aload_n hx hb dL_law_668 rfl (lv_at hl 1 rfl) ?_
  refine lv_iload hx hb dL_law_669 (lv_at hl 5 rfl) ?_
  refine lv_iconst (v := 1) hx hb dL_law_671 (by decide) ?_
  refine ln_iadd (x := ii) (y := 1) hx hb dL_law_672 ?_
  refine l_sld (v := nI j) hx hb hX hbl hbA hS (j := ii + 1) (by omega) (by omega) h_1 dL_law_673 ?_
  refine g_Vv (i := 22) (As := [.int (nI j)]) (rest := []) (kD_cutOff_k hA h15 ⟨h16, h17, h18, h19, h20, h21, h22⟩ j hjD hnD hr9D) calD_cutOff cvD_cutOff mlL_121 hx hb hml hown hts hB hG hK hS (by decide) h15 rfl ⟨by decide, by decide⟩ rfl hl.1 rfl (Nat.le_of_ble_eq_true rfl) dL_law_674 ⟨by show cs + 0 + 0 ≤ 1087; omega, by show ss + 0 + 0 ≤ 9297; omega⟩ (fun w24 H locs hp25 hG hS => ?_)
  obtain ⟨h26, ⟨h27, h28, h29, h30, h31, h32, h33⟩, hfr35⟩ := hp25
  have h36 : w24 0 = .inr (0, [.ref (a 1), .ref (a 9), .ref (a 12), .ref (a 15)]) := (hfr35 0 (by omega)).trans h14
  have h37 : w24 1 = .inr (1, [.ref (a 2), .ref (a 3), .ref (a 4), .ref (a 5), .ref (a 6), .ref (a 7), .ref (a 8), .int (nI n)]) := (hfr35 1 (by omega)).trans h4
  have h38 : w24 2 = .inl (k.2.1, 12, .inr (.inl up)) := (hfr35 2 (by omega)).trans h5
  have h39 : w24 3 = .inl (k.2.1, 12, .inr (.inl lo)) := (hfr35 3 (by omega)).trans h6
  have h40 : w24 4 = .inl (k.1, 12, .inl fa) := (hfr35 4 (by omega)).trans h7
  have h41 : w24 5 = .inl (k.1, 72, .inl we) := (hfr35 5 (by omega)).trans h8
  have h42 : w24 6 = .inl (k.1, 72, .inl ti) := (hfr35 6 (by omega)).trans h9
  have h43 : w24 7 = .inl (k.1, 12, .inl (upd ri j (-1))) := (hfr35 7 (by omega)).trans h10
  have h44 : w24 8 = .inl (k.2.2, 144, .inl jo) := (hfr35 8 (by omega)).trans h11
  refine lv_aload_n hx hb dL_law_677 rfl (lv_at hl 3 rfl) ?_
  refine g_ViR (i := 22) (As := []) (rest := []) (kD_thrown hA h26) calD_thrown cvD_thrown mlL_89 hx hb hml hown hts hB hG hK hS (by decide) h26 rfl ⟨by decide, by decide⟩ rfl hl.1 rfl (Nat.le_of_ble_eq_true rfl) dL_law_678 ⟨by show cs + 0 + 0 + 0 ≤ 1087; omega, by show ss + 0 + 0 + 0 ≤ 9297; omega⟩ (fun H locs hG hS => ?_)
  refine lv_iload hx hb dL_law_681 (lv_at hl 0 rfl) ?_
  refine lv_icmp_eq (tgt := 688) hx hb dL_law_683 (by decide) (fun _ => ?_) (fun h9 => absurd h9 (by decide))
  refine lv_goto (tgt := 1235) hx hb dL_law_688 (by decide) ?_
  exact kk _ _ _ _  h36 ⟨h37, h38, h39, h40, h41, h42, h43, h44⟩ h26 ⟨h27, h28, h29, h30, h31, h32, h33⟩  (fun z hz => (hfr35 z hz.2).trans (hfr13 z hz.1)) hG hS (lv_sub hl [1, 2, 3, 4, 5] rfl)

set_option maxRecDepth 100000 in
set_option maxHeartbeats 4000000 in
theorem st_cutOff_p {p : Program} {l : Launch} {e : Env} {s : State} {m : MethodId} {args : Array Value} {below : List Frame} {meth : Method} {c : Code} {Q : State → Prop} (hl9 : l.stackTraces = false) {D : va_G} {k : ClassId × ClassId × ClassId} {a : Nat → Nat} {B0 : Nat} {w : Nat → va_E} (hA : gA B0 a) (hx : p.tables.exec = Jvm.exec) (hb : c.code = cL_law) (hml : c.maxLocals = 8) (hown : s.vm.findClass RL = some m.cls) (hts : ∀ w ∈ TB, w.before args s = true) (hB : B0 ≤ s.heap.size) (hK : va_K D vwCl (gT k) s) (hXS : xS B0 s) {b Ls : Nat} {xs : Nat → Int32} (hX : va_X b Ls xs s s.heap) (hbl : b < s.heap.size) (hbA : ¬ gF B0 b) (hL9 : Ls ≤ 2048) {ii : Nat} (hi4 : ii + 4 ≤ Ls) {n : Nat} {up : Nat → Int64} {lo : Nat → Int64} {fa : Nat → Int32} {we : Nat → Int32} {ti : Nat → Int32} {ri : Nat → Int32} {jo : Nat → Int32} {th : Int32} {nr : Nat} {nf : Nat} {bw : Int32} {bd : Int32} {nt : Nat} {rd : Nat → Int32} {ma : Nat → Int32} {mb : Nat → Int32} {mc : Nat → Int32} {co : Nat → Int32} {jn : Nat → Int32} {ro : Nat → Int32} (hsX : sX k a w ) (hsP : sP k a w n up lo fa we ti ri jo) (hsD : sD k a w th n nr nf bw bd nt) (hsDP : sDP k a w rd ma mb mc co jn ro) (q : Int32) (h_1 : xs (ii + 1) = q) (hq : ¬ (¬ q < 0 ∧ ¬ nI n ≤ q)) (hqD : ¬ rngI q 0 (nI n - 1)) {H : Heap} {locs : List Loc} {ls : Array Slot} (hG : gW D a w H) (hS : va_S (gF B0) s.heap H locs) (hl : lv_has ls 8 [(0, .ref b), (1, .ref (a 0)), (2, .ref (a 22)), (3, .ref (a 21)), (4, .int (nI ii))]) {cs ss : Nat} (hcs : cs + 1 ≤ 1087) (hss : ss + 6 ≤ 9297)
 (kk : ∀ (w' : Nat → va_E) (H' : Heap) (locs' : List Loc) (ls' : Array Slot) , sX k a w' → sP k a w' n up lo fa we ti ri jo → sD k a w' 1 n nr nf bw bd nt → sDP k a w' rd ma mb mc co jn ro → (∀ z, (z < 22 ∨ 29 < z) → w' z = w z) → gW D a w' H' → va_S (gF B0) s.heap H' locs' → lv_has ls' 8 [(0, .ref b), (1, .ref (a 0)), (2, .ref (a 22)), (3, .ref (a 21)), (4, .int (nI ii))] → W p l e room_1 s m args below meth c H' locs' (cs + 1) (ss + 6) Q (F0 m 1235 ls' [])) : W p l e room_1 s m args below meth c H locs cs ss Q (F0 m 655 ls []) := by
  have hsX0 := hsX
  obtain ⟨hsP1, hsP2, hsP3, hsP4, hsP5, hsP6, hsP7, hsP8⟩ := hsP
  have hsD22 := hsD
  obtain ⟨hsDP23, hsDP24, hsDP25, hsDP26, hsDP27, hsDP28, hsDP29⟩ := hsDP
  refine lv_aload_n hx hb dL_law_655 rfl (lv_at hl 1 rfl) ?_
  refine lv_aload_n hx hb dL_law_656 rfl (lv_at hl 0 rfl) ?_
  refine lv_iload hx hb dL_law_657 (lv_at hl 4 rfl) ?_
  refine lv_iconst (v := 1) hx hb dL_law_659 (by decide) ?_
  refine ln_iadd (x := ii) (y := 1) hx hb dL_law_660 ?_
  refine l_sld (v := q) hx hb hX hbl hbA hS (j := ii + 1) (by omega) (by omega) h_1 dL_law_661 ?_
  refine y_Si (As := [.ref (a 0), .int q]) (rest := []) (kL_cutOff_p hl9 hA hsX0 ⟨hsP1, hsP2, hsP3, hsP4, hsP5, hsP6, hsP7, hsP8⟩ q hq) calL_cutOff mlL_118 hx hb hml hown hts hB hG hK hS hXS ⟨by decide, by decide⟩ rfl hl.1 rfl (Nat.le_of_ble_eq_true rfl) dL_law_662 ⟨by show cs + 1 ≤ 1087; omega, by show ss + 6 ≤ 9297; omega⟩ (fun H locs hG hS => ?_)
  refine lv_istore (lv' := [(5, .int 1), (0, .ref b), (1, .ref (a 0)), (2, .ref (a 22)), (3, .ref (a 21)), (4, .int (nI ii))]) hx hb dL_law_665 hl (by decide) rfl (fun ls hl => ?_)
  refine lv_aload_n hx hb dL_law_667 rfl (lv_at hl 3 rfl) ?_
  refine lv_aload_n hx hb dL_law_668 rfl (lv_at hl 1 rfl) ?_
  refine lv_iload hx hb dL_law_669 (lv_at hl 5 rfl) ?_
  refine lv_iconst (v := 1) hx hb dL_law_671 (by decide) ?_
  refine ln_iadd (x := ii) (y := 1) hx hb dL_law_672 ?_
  refine l_sld (v := q) hx hb hX hbl hbA hS (j := ii + 1) (by omega) (by omega) h_1 dL_law_673 ?_
  refine g_Vv (i := 22) (As := [.int q]) (rest := []) (kD_cutOff_p hA hsD22 ⟨hsDP23, hsDP24, hsDP25, hsDP26, hsDP27, hsDP28, hsDP29⟩ q hqD) calD_cutOff cvD_cutOff mlL_121 hx hb hml hown hts hB hG hK hS (by decide) hsD22 rfl ⟨by decide, by decide⟩ rfl hl.1 rfl (Nat.le_of_ble_eq_true rfl) dL_law_674 ⟨by show cs + 1 + 0 ≤ 1087; omega, by show ss + 6 + 0 ≤ 9297; omega⟩ (fun w2 H locs hp3 hG hS => ?_)
  obtain ⟨h4, ⟨h5, h6, h7, h8, h9, h10, h11⟩, hfr13⟩ := hp3
  have h14 : w2 0 = .inr (0, [.ref (a 1), .ref (a 9), .ref (a 12), .ref (a 15)]) := (hfr13 0 (by omega)).trans hsX0
  have h15 : w2 1 = .inr (1, [.ref (a 2), .ref (a 3), .ref (a 4), .ref (a 5), .ref (a 6), .ref (a 7), .ref (a 8), .int (nI n)]) := (hfr13 1 (by omega)).trans hsP1
  have h16 : w2 2 = .inl (k.2.1, 12, .inr (.inl up)) := (hfr13 2 (by omega)).trans hsP2
  have h17 : w2 3 = .inl (k.2.1, 12, .inr (.inl lo)) := (hfr13 3 (by omega)).trans hsP3
  have h18 : w2 4 = .inl (k.1, 12, .inl fa) := (hfr13 4 (by omega)).trans hsP4
  have h19 : w2 5 = .inl (k.1, 72, .inl we) := (hfr13 5 (by omega)).trans hsP5
  have h20 : w2 6 = .inl (k.1, 72, .inl ti) := (hfr13 6 (by omega)).trans hsP6
  have h21 : w2 7 = .inl (k.1, 12, .inl ri) := (hfr13 7 (by omega)).trans hsP7
  have h22 : w2 8 = .inl (k.2.2, 144, .inl jo) := (hfr13 8 (by omega)).trans hsP8
  refine lv_aload_n hx hb dL_law_677 rfl (lv_at hl 3 rfl) ?_
  refine g_ViR (i := 22) (As := []) (rest := []) (kD_thrown hA h4) calD_thrown cvD_thrown mlL_89 hx hb hml hown hts hB hG hK hS (by decide) h4 rfl ⟨by decide, by decide⟩ rfl hl.1 rfl (Nat.le_of_ble_eq_true rfl) dL_law_678 ⟨by show cs + 1 + 0 + 0 ≤ 1087; omega, by show ss + 6 + 0 + 0 ≤ 9297; omega⟩ (fun H locs hG hS => ?_)
  refine lv_iload hx hb dL_law_681 (lv_at hl 0 rfl) ?_
  refine lv_icmp_eq (tgt := 688) hx hb dL_law_683 (by decide) (fun _ => ?_) (fun h9 => absurd h9 (by decide))
  refine lv_goto (tgt := 1235) hx hb dL_law_688 (by decide) ?_
  exact kk _ _ _ _  h14 ⟨h15, h16, h17, h18, h19, h20, h21, h22⟩ h4 ⟨h5, h6, h7, h8, h9, h10, h11⟩  hfr13 hG hS (lv_sub hl [1, 2, 3, 4, 5] rfl)

set_option maxRecDepth 100000 in
set_option maxHeartbeats 4000000 in
theorem st_cutOff_r {p : Program} {l : Launch} {e : Env} {s : State} {m : MethodId} {args : Array Value} {below : List Frame} {meth : Method} {c : Code} {Q : State → Prop} (hl9 : l.stackTraces = false) {D : va_G} {k : ClassId × ClassId × ClassId} {a : Nat → Nat} {B0 : Nat} {w : Nat → va_E} (hA : gA B0 a) (hx : p.tables.exec = Jvm.exec) (hb : c.code = cL_law) (hml : c.maxLocals = 8) (hown : s.vm.findClass RL = some m.cls) (hts : ∀ w ∈ TB, w.before args s = true) (hB : B0 ≤ s.heap.size) (hK : va_K D vwCl (gT k) s) (hXS : xS B0 s) {b Ls : Nat} {xs : Nat → Int32} (hX : va_X b Ls xs s s.heap) (hbl : b < s.heap.size) (hbA : ¬ gF B0 b) (hL9 : Ls ≤ 2048) {ii : Nat} (hi4 : ii + 4 ≤ Ls) {n : Nat} {up : Nat → Int64} {lo : Nat → Int64} {fa : Nat → Int32} {we : Nat → Int32} {ti : Nat → Int32} {ri : Nat → Int32} {jo : Nat → Int32} {th : Int32} {nr : Nat} {nf : Nat} {bw : Int32} {bd : Int32} {nt : Nat} {rd : Nat → Int32} {ma : Nat → Int32} {mb : Nat → Int32} {mc : Nat → Int32} {co : Nat → Int32} {jn : Nat → Int32} {ro : Nat → Int32} (hsX : sX k a w ) (hsP : sP k a w n up lo fa we ti ri jo) (hsD : sD k a w th n nr nf bw bd nt) (hsDP : sDP k a w rd ma mb mc co jn ro) (j : Nat) (h_1 : xs (ii + 1) = nI j) (hj : j < n) (hn : n ≤ 12) (hr9 : ri j = -1) (hjD : j < n) (hnD : n ≤ 12) (hr9D : ro j < 0) {H : Heap} {locs : List Loc} {ls : Array Slot} (hG : gW D a w H) (hS : va_S (gF B0) s.heap H locs) (hl : lv_has ls 8 [(0, .ref b), (1, .ref (a 0)), (2, .ref (a 22)), (3, .ref (a 21)), (4, .int (nI ii))]) {cs ss : Nat} (hcs : cs + 1 ≤ 1087) (hss : ss + 6 ≤ 9297)
 (kk : ∀ (w' : Nat → va_E) (H' : Heap) (locs' : List Loc) (ls' : Array Slot) , sX k a w' → sP k a w' n up lo fa we ti ri jo → sD k a w' 2 n nr nf bw bd nt → sDP k a w' rd ma mb mc co jn ro → (∀ z, (z < 22 ∨ 29 < z) → w' z = w z) → gW D a w' H' → va_S (gF B0) s.heap H' locs' → lv_has ls' 8 [(0, .ref b), (1, .ref (a 0)), (2, .ref (a 22)), (3, .ref (a 21)), (4, .int (nI ii))] → W p l e room_1 s m args below meth c H' locs' (cs + 1) (ss + 6) Q (F0 m 1235 ls' [])) : W p l e room_1 s m args below meth c H locs cs ss Q (F0 m 655 ls []) := by
  have hsX0 := hsX
  obtain ⟨hsP1, hsP2, hsP3, hsP4, hsP5, hsP6, hsP7, hsP8⟩ := hsP
  have hsD22 := hsD
  obtain ⟨hsDP23, hsDP24, hsDP25, hsDP26, hsDP27, hsDP28, hsDP29⟩ := hsDP
  refine lv_aload_n hx hb dL_law_655 rfl (lv_at hl 1 rfl) ?_
  refine lv_aload_n hx hb dL_law_656 rfl (lv_at hl 0 rfl) ?_
  refine lv_iload hx hb dL_law_657 (lv_at hl 4 rfl) ?_
  refine lv_iconst (v := 1) hx hb dL_law_659 (by decide) ?_
  refine ln_iadd (x := ii) (y := 1) hx hb dL_law_660 ?_
  refine l_sld (v := nI j) hx hb hX hbl hbA hS (j := ii + 1) (by omega) (by omega) h_1 dL_law_661 ?_
  refine y_Si (As := [.ref (a 0), .int (nI j)]) (rest := []) (kL_cutOff_r hl9 hA hsX0 ⟨hsP1, hsP2, hsP3, hsP4, hsP5, hsP6, hsP7, hsP8⟩ j hj hn hr9) calL_cutOff mlL_118 hx hb hml hown hts hB hG hK hS hXS ⟨by decide, by decide⟩ rfl hl.1 rfl (Nat.le_of_ble_eq_true rfl) dL_law_662 ⟨by show cs + 1 ≤ 1087; omega, by show ss + 6 ≤ 9297; omega⟩ (fun H locs hG hS => ?_)
  refine lv_istore (lv' := [(5, .int 2), (0, .ref b), (1, .ref (a 0)), (2, .ref (a 22)), (3, .ref (a 21)), (4, .int (nI ii))]) hx hb dL_law_665 hl (by decide) rfl (fun ls hl => ?_)
  refine lv_aload_n hx hb dL_law_667 rfl (lv_at hl 3 rfl) ?_
  refine lv_aload_n hx hb dL_law_668 rfl (lv_at hl 1 rfl) ?_
  refine lv_iload hx hb dL_law_669 (lv_at hl 5 rfl) ?_
  refine lv_iconst (v := 1) hx hb dL_law_671 (by decide) ?_
  refine ln_iadd (x := ii) (y := 1) hx hb dL_law_672 ?_
  refine l_sld (v := nI j) hx hb hX hbl hbA hS (j := ii + 1) (by omega) (by omega) h_1 dL_law_673 ?_
  refine g_Vv (i := 22) (As := [.int (nI j)]) (rest := []) (kD_cutOff_r hA hsD22 ⟨hsDP23, hsDP24, hsDP25, hsDP26, hsDP27, hsDP28, hsDP29⟩ j hjD hnD hr9D) calD_cutOff cvD_cutOff mlL_121 hx hb hml hown hts hB hG hK hS (by decide) hsD22 rfl ⟨by decide, by decide⟩ rfl hl.1 rfl (Nat.le_of_ble_eq_true rfl) dL_law_674 ⟨by show cs + 1 + 0 ≤ 1087; omega, by show ss + 6 + 0 ≤ 9297; omega⟩ (fun w2 H locs hp3 hG hS => ?_)
  obtain ⟨h4, ⟨h5, h6, h7, h8, h9, h10, h11⟩, hfr13⟩ := hp3
  have h14 : w2 0 = .inr (0, [.ref (a 1), .ref (a 9), .ref (a 12), .ref (a 15)]) := (hfr13 0 (by omega)).trans hsX0
  have h15 : w2 1 = .inr (1, [.ref (a 2), .ref (a 3), .ref (a 4), .ref (a 5), .ref (a 6), .ref (a 7), .ref (a 8), .int (nI n)]) := (hfr13 1 (by omega)).trans hsP1
  have h16 : w2 2 = .inl (k.2.1, 12, .inr (.inl up)) := (hfr13 2 (by omega)).trans hsP2
  have h17 : w2 3 = .inl (k.2.1, 12, .inr (.inl lo)) := (hfr13 3 (by omega)).trans hsP3
  have h18 : w2 4 = .inl (k.1, 12, .inl fa) := (hfr13 4 (by omega)).trans hsP4
  have h19 : w2 5 = .inl (k.1, 72, .inl we) := (hfr13 5 (by omega)).trans hsP5
  have h20 : w2 6 = .inl (k.1, 72, .inl ti) := (hfr13 6 (by omega)).trans hsP6
  have h21 : w2 7 = .inl (k.1, 12, .inl ri) := (hfr13 7 (by omega)).trans hsP7
  have h22 : w2 8 = .inl (k.2.2, 144, .inl jo) := (hfr13 8 (by omega)).trans hsP8
  refine lv_aload_n hx hb dL_law_677 rfl (lv_at hl 3 rfl) ?_
  refine g_ViR (i := 22) (As := []) (rest := []) (kD_thrown hA h4) calD_thrown cvD_thrown mlL_89 hx hb hml hown hts hB hG hK hS (by decide) h4 rfl ⟨by decide, by decide⟩ rfl hl.1 rfl (Nat.le_of_ble_eq_true rfl) dL_law_678 ⟨by show cs + 1 + 0 + 0 ≤ 1087; omega, by show ss + 6 + 0 + 0 ≤ 9297; omega⟩ (fun H locs hG hS => ?_)
  refine lv_iload hx hb dL_law_681 (lv_at hl 0 rfl) ?_
  refine lv_icmp_eq (tgt := 688) hx hb dL_law_683 (by decide) (fun _ => ?_) (fun h9 => absurd h9 (by decide))
  refine lv_goto (tgt := 1235) hx hb dL_law_688 (by decide) ?_
  exact kk _ _ _ _  h14 ⟨h15, h16, h17, h18, h19, h20, h21, h22⟩ h4 ⟨h5, h6, h7, h8, h9, h10, h11⟩  hfr13 hG hS (lv_sub hl [1, 2, 3, 4, 5] rfl)

set_option maxRecDepth 100000 in
set_option maxHeartbeats 4000000 in
theorem st_feeder_k {p : Program} {l : Launch} {e : Env} {s : State} {m : MethodId} {args : Array Value} {below : List Frame} {meth : Method} {c : Code} {Q : State → Prop} (hl9 : l.stackTraces = false) {D : va_G} {k : ClassId × ClassId × ClassId} {a : Nat → Nat} {B0 : Nat} {w : Nat → va_E} (hA : gA B0 a) (hx : p.tables.exec = Jvm.exec) (hb : c.code = cL_law) (hml : c.maxLocals = 8) (hown : s.vm.findClass RL = some m.cls) (hts : ∀ w ∈ TB, w.before args s = true) (hB : B0 ≤ s.heap.size) (hK : va_K D vwCl (gT k) s) (hXS : xS B0 s) {b Ls : Nat} {xs : Nat → Int32} (hX : va_X b Ls xs s s.heap) (hbl : b < s.heap.size) (hbA : ¬ gF B0 b) (hL9 : Ls ≤ 2048) {ii : Nat} (hi4 : ii + 4 ≤ Ls) {n : Nat} {up : Nat → Int64} {lo : Nat → Int64} {fa : Nat → Int32} {we : Nat → Int32} {ti : Nat → Int32} {ri : Nat → Int32} {jo : Nat → Int32} {oo : Nat → Int64} {th : Int32} {nr : Nat} {nf : Nat} {bw : Int32} {bd : Int32} {nt : Nat} {rd : Nat → Int32} {ma : Nat → Int32} {mb : Nat → Int32} {mc : Nat → Int32} {co : Nat → Int32} {jn : Nat → Int32} {ro : Nat → Int32} (hsX : sX k a w ) (hsP : sP k a w n up lo fa we ti ri jo) (hsO : sO k a w oo) (hsD : sD k a w th n nr nf bw bd nt) (hsDP : sDP k a w rd ma mb mc co jn ro) (j : Nat) (h_1 : xs (ii + 1) = nI j) (hj : j < n) (hn : n ≤ 12) (hjo : ∀ z, z < 144 → narrow .boolean (.int (jo z)) = .int (jo z)) (hjD : j < n) (hnD : n ≤ 12) (hval : (rFeed up lo ri jo n j).toInt64 = (mFeed rd ma mb mc co jn ro n j).toInt64) {H : Heap} {locs : List Loc} {ls : Array Slot} (hG : gW D a w H) (hS : va_S (gF B0) s.heap H locs) (hl : lv_has ls 8 [(0, .ref b), (1, .ref (a 0)), (2, .ref (a 22)), (3, .ref (a 21)), (4, .int (nI ii))]) {cs ss : Nat} (hcs : cs + 1 ≤ 1087) (hss : ss + 6 ≤ 9297)
 (kk : ∀ (w' : Nat → va_E) (H' : Heap) (locs' : List Loc) (ls' : Array Slot) , sX k a w' → sP k a w' n up lo fa we ti ri jo → sO k a w' (vp_updL oo 0 ((rFeed up lo ri jo n j).toInt64)) → sD k a w' 0 n nr nf bw bd nt → sDP k a w' rd ma mb mc co jn ro → (∀ z, (z < 21 ∨ 21 < z) ∧ (z < 22 ∨ 29 < z) → w' z = w z) → gW D a w' H' → va_S (gF B0) s.heap H' locs' → lv_has ls' 8 [(0, .ref b), (1, .ref (a 0)), (2, .ref (a 22)), (3, .ref (a 21)), (4, .int (nI ii))] → W p l e room_1 s m args below meth c H' locs' (cs + 0) (ss + 0) Q (F0 m 1235 ls' [])) : W p l e room_1 s m args below meth c H locs cs ss Q (F0 m 691 ls []) := by
  have hsX0 := hsX
  obtain ⟨hsP1, hsP2, hsP3, hsP4, hsP5, hsP6, hsP7, hsP8⟩ := hsP
  have hsO21 := hsO
  have hsD22 := hsD
  obtain ⟨hsDP23, hsDP24, hsDP25, hsDP26, hsDP27, hsDP28, hsDP29⟩ := hsDP
  refine lv_aload_n hx hb dL_law_691 rfl (lv_at hl 1 rfl) ?_
  refine lv_aload_n hx hb dL_law_692 rfl (lv_at hl 0 rfl) ?_
  refine lv_iload hx hb dL_law_693 (lv_at hl 4 rfl) ?_
  refine lv_iconst (v := 1) hx hb dL_law_695 (by decide) ?_
  refine ln_iadd (x := ii) (y := 1) hx hb dL_law_696 ?_
  refine l_sld (v := nI j) hx hb hX hbl hbA hS (j := ii + 1) (by omega) (by omega) h_1 dL_law_697 ?_
  refine lv_aload_n hx hb dL_law_698 rfl (lv_at hl 3 rfl) ?_
  refine h_Si (As := [.ref (a 0), .int (nI j), .ref (a 21)]) (rest := []) (kL_feeder_k hA hsX0 ⟨hsP1, hsP2, hsP3, hsP4, hsP5, hsP6, hsP7, hsP8⟩ hsO21 j hj hn hjo) calL_feeder mlL_122 hx hb hml hown hts hB hG hK hS ⟨by decide, by decide⟩ rfl hl.1 rfl (Nat.le_of_ble_eq_true rfl) dL_law_699 ⟨by show cs + 0 ≤ 1087; omega, by show ss + 0 ≤ 9297; omega⟩ (fun r1 w2 H locs hp3 hG hS => ?_)
  obtain ⟨er5, h4, hfr6⟩ := hp3
  have h7 : w2 0 = .inr (0, [.ref (a 1), .ref (a 9), .ref (a 12), .ref (a 15)]) := (hfr6 0 (by omega)).trans hsX0
  have h8 : w2 1 = .inr (1, [.ref (a 2), .ref (a 3), .ref (a 4), .ref (a 5), .ref (a 6), .ref (a 7), .ref (a 8), .int (nI n)]) := (hfr6 1 (by omega)).trans hsP1
  have h9 : w2 2 = .inl (k.2.1, 12, .inr (.inl up)) := (hfr6 2 (by omega)).trans hsP2
  have h10 : w2 3 = .inl (k.2.1, 12, .inr (.inl lo)) := (hfr6 3 (by omega)).trans hsP3
  have h11 : w2 4 = .inl (k.1, 12, .inl fa) := (hfr6 4 (by omega)).trans hsP4
  have h12 : w2 5 = .inl (k.1, 72, .inl we) := (hfr6 5 (by omega)).trans hsP5
  have h13 : w2 6 = .inl (k.1, 72, .inl ti) := (hfr6 6 (by omega)).trans hsP6
  have h14 : w2 7 = .inl (k.1, 12, .inl ri) := (hfr6 7 (by omega)).trans hsP7
  have h15 : w2 8 = .inl (k.2.2, 144, .inl jo) := (hfr6 8 (by omega)).trans hsP8
  have h16 : w2 22 = .inr (5, [.int th, .int (nI n), .ref (a 23), .ref (a 24), .ref (a 25), .ref (a 26), .ref (a 27), .ref (a 28), .ref (a 29), .int (nI nr), .ref (a 30), .ref (a 31), .int (nI nf), .ref (a 32), .ref (a 33), .int bw, .int bd, .int (nI nt), .ref (a 34), .ref (a 35), .ref (a 36), .ref (a 37)]) := (hfr6 22 (by omega)).trans hsD22
  have h17 : w2 23 = .inl (k.2.2, 12, .inl rd) := (hfr6 23 (by omega)).trans hsDP23
  have h18 : w2 24 = .inl (k.1, 12, .inl ma) := (hfr6 24 (by omega)).trans hsDP24
  have h19 : w2 25 = .inl (k.1, 12, .inl mb) := (hfr6 25 (by omega)).trans hsDP25
  have h20 : w2 26 = .inl (k.1, 12, .inl mc) := (hfr6 26 (by omega)).trans hsDP26
  have h21 : w2 27 = .inl (k.1, 72, .inl co) := (hfr6 27 (by omega)).trans hsDP27
  have h22 : w2 28 = .inl (k.1, 12, .inl jn) := (hfr6 28 (by omega)).trans hsDP28
  have h23 : w2 29 = .inl (k.1, 12, .inl ro) := (hfr6 29 (by omega)).trans hsDP29
  rw [er5]
  refine lv_istore (lv' := [(5, .int 0), (0, .ref b), (1, .ref (a 0)), (2, .ref (a 22)), (3, .ref (a 21)), (4, .int (nI ii))]) hx hb dL_law_702 hl (by decide) rfl (fun ls hl => ?_)
  refine lv_aload_n hx hb dL_law_704 rfl (lv_at hl 3 rfl) ?_
  refine lv_aload_n hx hb dL_law_705 rfl (lv_at hl 1 rfl) ?_
  refine lv_iload hx hb dL_law_706 (lv_at hl 5 rfl) ?_
  refine lv_iconst (v := 1) hx hb dL_law_708 (by decide) ?_
  refine ln_iadd (x := ii) (y := 1) hx hb dL_law_709 ?_
  refine l_sld (v := nI j) hx hb hX hbl hbA hS (j := ii + 1) (by omega) (by omega) h_1 dL_law_710 ?_
  refine g_Vi (i := 22) (As := [.int (nI j)]) (rest := []) (kD_feeder_k hA h16 ⟨h17, h18, h19, h20, h21, h22, h23⟩ j hjD hnD) calD_feeder cvD_feeder mlL_124 hx hb hml hown hts hB hG hK hS (by decide) h16 rfl ⟨by decide, by decide⟩ rfl hl.1 rfl (Nat.le_of_ble_eq_true rfl) dL_law_711 ⟨by show cs + 0 + 0 ≤ 1087; omega, by show ss + 0 + 0 ≤ 9297; omega⟩ (fun r24 w25 H locs hp26 hG hS => ?_)
  obtain ⟨er35, h27, ⟨h28, h29, h30, h31, h32, h33, h34⟩, hfr36⟩ := hp26
  have h37 : w25 0 = .inr (0, [.ref (a 1), .ref (a 9), .ref (a 12), .ref (a 15)]) := (hfr36 0 (by omega)).trans h7
  have h38 : w25 1 = .inr (1, [.ref (a 2), .ref (a 3), .ref (a 4), .ref (a 5), .ref (a 6), .ref (a 7), .ref (a 8), .int (nI n)]) := (hfr36 1 (by omega)).trans h8
  have h39 : w25 2 = .inl (k.2.1, 12, .inr (.inl up)) := (hfr36 2 (by omega)).trans h9
  have h40 : w25 3 = .inl (k.2.1, 12, .inr (.inl lo)) := (hfr36 3 (by omega)).trans h10
  have h41 : w25 4 = .inl (k.1, 12, .inl fa) := (hfr36 4 (by omega)).trans h11
  have h42 : w25 5 = .inl (k.1, 72, .inl we) := (hfr36 5 (by omega)).trans h12
  have h43 : w25 6 = .inl (k.1, 72, .inl ti) := (hfr36 6 (by omega)).trans h13
  have h44 : w25 7 = .inl (k.1, 12, .inl ri) := (hfr36 7 (by omega)).trans h14
  have h45 : w25 8 = .inl (k.2.2, 144, .inl jo) := (hfr36 8 (by omega)).trans h15
  have h46 : w25 21 = .inl (k.2.1, 1, .inr (.inl (vp_updL oo 0 ((rFeed up lo ri jo n j).toInt64)))) := (hfr36 21 (by omega)).trans h4
  rw [er35]
  refine lv_istore (lv' := [(6, .int (mFeed rd ma mb mc co jn ro n j)), (5, .int 0), (0, .ref b), (1, .ref (a 0)), (2, .ref (a 22)), (3, .ref (a 21)), (4, .int (nI ii))]) hx hb dL_law_714 hl (by decide) rfl (fun ls hl => ?_)
  refine lv_aload_n hx hb dL_law_716 rfl (lv_at hl 4 rfl) ?_
  refine g_ViR (i := 22) (As := []) (rest := []) (kD_thrown hA h27) calD_thrown cvD_thrown mlL_89 hx hb hml hown hts hB hG hK hS (by decide) h27 rfl ⟨by decide, by decide⟩ rfl hl.1 rfl (Nat.le_of_ble_eq_true rfl) dL_law_717 ⟨by show cs + 0 + 0 + 0 ≤ 1087; omega, by show ss + 0 + 0 + 0 ≤ 9297; omega⟩ (fun H locs hG hS => ?_)
  refine lv_iload hx hb dL_law_720 (lv_at hl 1 rfl) ?_
  refine lv_icmp_eq (tgt := 727) hx hb dL_law_722 (by decide) (fun _ => ?_) (fun h9 => absurd h9 (by decide))
  refine lv_iload hx hb dL_law_727 (lv_at hl 1 rfl) ?_
  refine lv_if_ne (tgt := 744) hx hb dL_law_729 (by decide) (fun h9 => absurd h9 (by decide)) (fun _ => ?_)
  refine lv_aload_n hx hb dL_law_732 rfl (lv_at hl 5 rfl) ?_
  refine lv_iconst (v := 0) hx hb dL_law_733 (by decide) ?_
  refine g_lald hx hb hK hG 21 (by decide) h46 (j := 0) (by omega) (by decide) dL_law_734 ?_
  refine lv_iload hx hb dL_law_735 (lv_at hl 0 rfl) ?_
  refine lv_i2l hx hb dL_law_737 rfl ?_
  refine W.lcmp hx hb dL_law_738 ?_
  refine lc_if_eq (tgt := 744) hx hb dL_law_739 (by decide) (fun c49 => ?_) (fun c49 => (absurd (pk_uLs.trans hval) c49))
  refine lv_goto (tgt := 1235) hx hb dL_law_744 (by decide) ?_
  exact kk _ _ _ _  h37 ⟨h38, h39, h40, h41, h42, h43, h44, h45⟩ h46 h27 ⟨h28, h29, h30, h31, h32, h33, h34⟩  (fun z hz => (hfr36 z hz.2).trans (hfr6 z hz.1)) hG hS (lv_sub hl [2, 3, 4, 5, 6] rfl)

set_option maxRecDepth 100000 in
set_option maxHeartbeats 4000000 in
theorem st_feeder_p {p : Program} {l : Launch} {e : Env} {s : State} {m : MethodId} {args : Array Value} {below : List Frame} {meth : Method} {c : Code} {Q : State → Prop} (hl9 : l.stackTraces = false) {D : va_G} {k : ClassId × ClassId × ClassId} {a : Nat → Nat} {B0 : Nat} {w : Nat → va_E} (hA : gA B0 a) (hx : p.tables.exec = Jvm.exec) (hb : c.code = cL_law) (hml : c.maxLocals = 8) (hown : s.vm.findClass RL = some m.cls) (hts : ∀ w ∈ TB, w.before args s = true) (hB : B0 ≤ s.heap.size) (hK : va_K D vwCl (gT k) s) (hXS : xS B0 s) {b Ls : Nat} {xs : Nat → Int32} (hX : va_X b Ls xs s s.heap) (hbl : b < s.heap.size) (hbA : ¬ gF B0 b) (hL9 : Ls ≤ 2048) {ii : Nat} (hi4 : ii + 4 ≤ Ls) {n : Nat} {up : Nat → Int64} {lo : Nat → Int64} {fa : Nat → Int32} {we : Nat → Int32} {ti : Nat → Int32} {ri : Nat → Int32} {jo : Nat → Int32} {th : Int32} {nr : Nat} {nf : Nat} {bw : Int32} {bd : Int32} {nt : Nat} {rd : Nat → Int32} {ma : Nat → Int32} {mb : Nat → Int32} {mc : Nat → Int32} {co : Nat → Int32} {jn : Nat → Int32} {ro : Nat → Int32} (hsX : sX k a w ) (hsP : sP k a w n up lo fa we ti ri jo) (hsD : sD k a w th n nr nf bw bd nt) (hsDP : sDP k a w rd ma mb mc co jn ro) (q : Int32) (h_1 : xs (ii + 1) = q) (hq : ¬ (¬ q < 0 ∧ ¬ nI n ≤ q)) (hqD : ¬ rngI q 0 (nI n - 1)) {H : Heap} {locs : List Loc} {ls : Array Slot} (hG : gW D a w H) (hS : va_S (gF B0) s.heap H locs) (hl : lv_has ls 8 [(0, .ref b), (1, .ref (a 0)), (2, .ref (a 22)), (3, .ref (a 21)), (4, .int (nI ii))]) {cs ss : Nat} (hcs : cs + 1 ≤ 1087) (hss : ss + 6 ≤ 9297)
 (kk : ∀ (w' : Nat → va_E) (H' : Heap) (locs' : List Loc) (ls' : Array Slot) , sX k a w' → sP k a w' n up lo fa we ti ri jo → sD k a w' 1 n nr nf bw bd nt → sDP k a w' rd ma mb mc co jn ro → (∀ z, (z < 22 ∨ 29 < z) → w' z = w z) → gW D a w' H' → va_S (gF B0) s.heap H' locs' → lv_has ls' 8 [(0, .ref b), (1, .ref (a 0)), (2, .ref (a 22)), (3, .ref (a 21)), (4, .int (nI ii))] → W p l e room_1 s m args below meth c H' locs' (cs + 1) (ss + 6) Q (F0 m 1235 ls' [])) : W p l e room_1 s m args below meth c H locs cs ss Q (F0 m 691 ls []) := by
  have hsX0 := hsX
  obtain ⟨hsP1, hsP2, hsP3, hsP4, hsP5, hsP6, hsP7, hsP8⟩ := hsP
  have hsD22 := hsD
  obtain ⟨hsDP23, hsDP24, hsDP25, hsDP26, hsDP27, hsDP28, hsDP29⟩ := hsDP
  refine lv_aload_n hx hb dL_law_691 rfl (lv_at hl 1 rfl) ?_
  refine lv_aload_n hx hb dL_law_692 rfl (lv_at hl 0 rfl) ?_
  refine lv_iload hx hb dL_law_693 (lv_at hl 4 rfl) ?_
  refine lv_iconst (v := 1) hx hb dL_law_695 (by decide) ?_
  refine ln_iadd (x := ii) (y := 1) hx hb dL_law_696 ?_
  refine l_sld (v := q) hx hb hX hbl hbA hS (j := ii + 1) (by omega) (by omega) h_1 dL_law_697 ?_
  refine lv_aload_n hx hb dL_law_698 rfl (lv_at hl 3 rfl) ?_
  refine y_Si (As := [.ref (a 0), .int q, .ref (a 21)]) (rest := []) (kL_feeder_p hl9 hA hsX0 ⟨hsP1, hsP2, hsP3, hsP4, hsP5, hsP6, hsP7, hsP8⟩ q hq) calL_feeder mlL_122 hx hb hml hown hts hB hG hK hS hXS ⟨by decide, by decide⟩ rfl hl.1 rfl (Nat.le_of_ble_eq_true rfl) dL_law_699 ⟨by show cs + 1 ≤ 1087; omega, by show ss + 6 ≤ 9297; omega⟩ (fun H locs hG hS => ?_)
  refine lv_istore (lv' := [(5, .int 1), (0, .ref b), (1, .ref (a 0)), (2, .ref (a 22)), (3, .ref (a 21)), (4, .int (nI ii))]) hx hb dL_law_702 hl (by decide) rfl (fun ls hl => ?_)
  refine lv_aload_n hx hb dL_law_704 rfl (lv_at hl 3 rfl) ?_
  refine lv_aload_n hx hb dL_law_705 rfl (lv_at hl 1 rfl) ?_
  refine lv_iload hx hb dL_law_706 (lv_at hl 5 rfl) ?_
  refine lv_iconst (v := 1) hx hb dL_law_708 (by decide) ?_
  refine ln_iadd (x := ii) (y := 1) hx hb dL_law_709 ?_
  refine l_sld (v := q) hx hb hX hbl hbA hS (j := ii + 1) (by omega) (by omega) h_1 dL_law_710 ?_
  refine g_Vi (i := 22) (As := [.int q]) (rest := []) (kD_feeder_p hA hsD22 ⟨hsDP23, hsDP24, hsDP25, hsDP26, hsDP27, hsDP28, hsDP29⟩ q hqD) calD_feeder cvD_feeder mlL_124 hx hb hml hown hts hB hG hK hS (by decide) hsD22 rfl ⟨by decide, by decide⟩ rfl hl.1 rfl (Nat.le_of_ble_eq_true rfl) dL_law_711 ⟨by show cs + 1 + 0 ≤ 1087; omega, by show ss + 6 + 0 ≤ 9297; omega⟩ (fun r1 w2 H locs hp3 hG hS => ?_)
  obtain ⟨er12, h4, ⟨h5, h6, h7, h8, h9, h10, h11⟩, hfr13⟩ := hp3
  have h14 : w2 0 = .inr (0, [.ref (a 1), .ref (a 9), .ref (a 12), .ref (a 15)]) := (hfr13 0 (by omega)).trans hsX0
  have h15 : w2 1 = .inr (1, [.ref (a 2), .ref (a 3), .ref (a 4), .ref (a 5), .ref (a 6), .ref (a 7), .ref (a 8), .int (nI n)]) := (hfr13 1 (by omega)).trans hsP1
  have h16 : w2 2 = .inl (k.2.1, 12, .inr (.inl up)) := (hfr13 2 (by omega)).trans hsP2
  have h17 : w2 3 = .inl (k.2.1, 12, .inr (.inl lo)) := (hfr13 3 (by omega)).trans hsP3
  have h18 : w2 4 = .inl (k.1, 12, .inl fa) := (hfr13 4 (by omega)).trans hsP4
  have h19 : w2 5 = .inl (k.1, 72, .inl we) := (hfr13 5 (by omega)).trans hsP5
  have h20 : w2 6 = .inl (k.1, 72, .inl ti) := (hfr13 6 (by omega)).trans hsP6
  have h21 : w2 7 = .inl (k.1, 12, .inl ri) := (hfr13 7 (by omega)).trans hsP7
  have h22 : w2 8 = .inl (k.2.2, 144, .inl jo) := (hfr13 8 (by omega)).trans hsP8
  rw [er12]
  refine lv_istore (lv' := [(6, .int 0), (5, .int 1), (0, .ref b), (1, .ref (a 0)), (2, .ref (a 22)), (3, .ref (a 21)), (4, .int (nI ii))]) hx hb dL_law_714 hl (by decide) rfl (fun ls hl => ?_)
  refine lv_aload_n hx hb dL_law_716 rfl (lv_at hl 4 rfl) ?_
  refine g_ViR (i := 22) (As := []) (rest := []) (kD_thrown hA h4) calD_thrown cvD_thrown mlL_89 hx hb hml hown hts hB hG hK hS (by decide) h4 rfl ⟨by decide, by decide⟩ rfl hl.1 rfl (Nat.le_of_ble_eq_true rfl) dL_law_717 ⟨by show cs + 1 + 0 + 0 ≤ 1087; omega, by show ss + 6 + 0 + 0 ≤ 9297; omega⟩ (fun H locs hG hS => ?_)
  refine lv_iload hx hb dL_law_720 (lv_at hl 1 rfl) ?_
  refine lv_icmp_eq (tgt := 727) hx hb dL_law_722 (by decide) (fun _ => ?_) (fun h9 => absurd h9 (by decide))
  refine lv_iload hx hb dL_law_727 (lv_at hl 1 rfl) ?_
  refine lv_if_ne (tgt := 744) hx hb dL_law_729 (by decide) (fun _ => ?_) (fun h9 => absurd h9 (by decide))
  refine lv_goto (tgt := 1235) hx hb dL_law_744 (by decide) ?_
  exact kk _ _ _ _  h14 ⟨h15, h16, h17, h18, h19, h20, h21, h22⟩ h4 ⟨h5, h6, h7, h8, h9, h10, h11⟩  hfr13 hG hS (lv_sub hl [2, 3, 4, 5, 6] rfl)

set_option maxRecDepth 100000 in
set_option maxHeartbeats 4000000 in
theorem st_unfed_k {p : Program} {l : Launch} {e : Env} {s : State} {m : MethodId} {args : Array Value} {below : List Frame} {meth : Method} {c : Code} {Q : State → Prop} (hl9 : l.stackTraces = false) {D : va_G} {k : ClassId × ClassId × ClassId} {a : Nat → Nat} {B0 : Nat} {w : Nat → va_E} (hA : gA B0 a) (hx : p.tables.exec = Jvm.exec) (hb : c.code = cL_law) (hml : c.maxLocals = 8) (hown : s.vm.findClass RL = some m.cls) (hts : ∀ w ∈ TB, w.before args s = true) (hB : B0 ≤ s.heap.size) (hK : va_K D vwCl (gT k) s) (hXS : xS B0 s) {b Ls : Nat} {xs : Nat → Int32} (hX : va_X b Ls xs s s.heap) (hbl : b < s.heap.size) (hbA : ¬ gF B0 b) (hL9 : Ls ≤ 2048) {ii : Nat} (hi4 : ii + 4 ≤ Ls) {n : Nat} {up : Nat → Int64} {lo : Nat → Int64} {fa : Nat → Int32} {we : Nat → Int32} {ti : Nat → Int32} {ri : Nat → Int32} {jo : Nat → Int32} {oo : Nat → Int64} {th : Int32} {nr : Nat} {nf : Nat} {bw : Int32} {bd : Int32} {nt : Nat} {rd : Nat → Int32} {ma : Nat → Int32} {mb : Nat → Int32} {mc : Nat → Int32} {co : Nat → Int32} {jn : Nat → Int32} {ro : Nat → Int32} (hsX : sX k a w ) (hsP : sP k a w n up lo fa we ti ri jo) (hsO : sO k a w oo) (hsD : sD k a w th n nr nf bw bd nt) (hsDP : sDP k a w rd ma mb mc co jn ro) (q : Int32) (h_1 : xs (ii + 1) = q) (hq : ¬ q < 0) (hn : n ≤ 12) (hjo : ∀ z, z < 144 → narrow .boolean (.int (jo z)) = .int (jo z)) (hqD : ¬ q < 0) (hnD : n ≤ 12) (hval : (unF (rFeed up lo ri jo n) q n 0 0).toInt64 = (unF (mFeed rd ma mb mc co jn ro n) q n 0 0).toInt64) {H : Heap} {locs : List Loc} {ls : Array Slot} (hG : gW D a w H) (hS : va_S (gF B0) s.heap H locs) (hl : lv_has ls 8 [(0, .ref b), (1, .ref (a 0)), (2, .ref (a 22)), (3, .ref (a 21)), (4, .int (nI ii))]) {cs ss : Nat} (hcs : cs + 1 ≤ 1087) (hss : ss + 6 ≤ 9297)
 (kk : ∀ (w' : Nat → va_E) (H' : Heap) (locs' : List Loc) (ls' : Array Slot) , sX k a w' → sP k a w' n up lo fa we ti ri jo → sO k a w' (vp_updL oo 0 ((unF (rFeed up lo ri jo n) q n 0 0).toInt64)) → sD k a w' 0 n nr nf bw bd nt → sDP k a w' rd ma mb mc co jn ro → (∀ z, (z < 21 ∨ 21 < z) ∧ (z < 22 ∨ 29 < z) → w' z = w z) → gW D a w' H' → va_S (gF B0) s.heap H' locs' → lv_has ls' 8 [(0, .ref b), (1, .ref (a 0)), (2, .ref (a 22)), (3, .ref (a 21)), (4, .int (nI ii))] → W p l e room_1 s m args below meth c H' locs' (cs + 0) (ss + 0) Q (F0 m 1235 ls' [])) : W p l e room_1 s m args below meth c H locs cs ss Q (F0 m 747 ls []) := by
  have hsX0 := hsX
  obtain ⟨hsP1, hsP2, hsP3, hsP4, hsP5, hsP6, hsP7, hsP8⟩ := hsP
  have hsO21 := hsO
  have hsD22 := hsD
  obtain ⟨hsDP23, hsDP24, hsDP25, hsDP26, hsDP27, hsDP28, hsDP29⟩ := hsDP
  refine lv_aload_n hx hb dL_law_747 rfl (lv_at hl 1 rfl) ?_
  refine lv_aload_n hx hb dL_law_748 rfl (lv_at hl 0 rfl) ?_
  refine lv_iload hx hb dL_law_749 (lv_at hl 4 rfl) ?_
  refine lv_iconst (v := 1) hx hb dL_law_751 (by decide) ?_
  refine ln_iadd (x := ii) (y := 1) hx hb dL_law_752 ?_
  refine l_sld (v := q) hx hb hX hbl hbA hS (j := ii + 1) (by omega) (by omega) h_1 dL_law_753 ?_
  refine lv_aload_n hx hb dL_law_754 rfl (lv_at hl 3 rfl) ?_
  refine h_Si (As := [.ref (a 0), .int q, .ref (a 21)]) (rest := []) (kL_unfed_k hA hsX0 ⟨hsP1, hsP2, hsP3, hsP4, hsP5, hsP6, hsP7, hsP8⟩ hsO21 q hq hn hjo) calL_unfed mlL_125 hx hb hml hown hts hB hG hK hS ⟨by decide, by decide⟩ rfl hl.1 rfl (Nat.le_of_ble_eq_true rfl) dL_law_755 ⟨by show cs + 0 ≤ 1087; omega, by show ss + 0 ≤ 9297; omega⟩ (fun r1 w2 H locs hp3 hG hS => ?_)
  obtain ⟨er5, h4, hfr6⟩ := hp3
  have h7 : w2 0 = .inr (0, [.ref (a 1), .ref (a 9), .ref (a 12), .ref (a 15)]) := (hfr6 0 (by omega)).trans hsX0
  have h8 : w2 1 = .inr (1, [.ref (a 2), .ref (a 3), .ref (a 4), .ref (a 5), .ref (a 6), .ref (a 7), .ref (a 8), .int (nI n)]) := (hfr6 1 (by omega)).trans hsP1
  have h9 : w2 2 = .inl (k.2.1, 12, .inr (.inl up)) := (hfr6 2 (by omega)).trans hsP2
  have h10 : w2 3 = .inl (k.2.1, 12, .inr (.inl lo)) := (hfr6 3 (by omega)).trans hsP3
  have h11 : w2 4 = .inl (k.1, 12, .inl fa) := (hfr6 4 (by omega)).trans hsP4
  have h12 : w2 5 = .inl (k.1, 72, .inl we) := (hfr6 5 (by omega)).trans hsP5
  have h13 : w2 6 = .inl (k.1, 72, .inl ti) := (hfr6 6 (by omega)).trans hsP6
  have h14 : w2 7 = .inl (k.1, 12, .inl ri) := (hfr6 7 (by omega)).trans hsP7
  have h15 : w2 8 = .inl (k.2.2, 144, .inl jo) := (hfr6 8 (by omega)).trans hsP8
  have h16 : w2 22 = .inr (5, [.int th, .int (nI n), .ref (a 23), .ref (a 24), .ref (a 25), .ref (a 26), .ref (a 27), .ref (a 28), .ref (a 29), .int (nI nr), .ref (a 30), .ref (a 31), .int (nI nf), .ref (a 32), .ref (a 33), .int bw, .int bd, .int (nI nt), .ref (a 34), .ref (a 35), .ref (a 36), .ref (a 37)]) := (hfr6 22 (by omega)).trans hsD22
  have h17 : w2 23 = .inl (k.2.2, 12, .inl rd) := (hfr6 23 (by omega)).trans hsDP23
  have h18 : w2 24 = .inl (k.1, 12, .inl ma) := (hfr6 24 (by omega)).trans hsDP24
  have h19 : w2 25 = .inl (k.1, 12, .inl mb) := (hfr6 25 (by omega)).trans hsDP25
  have h20 : w2 26 = .inl (k.1, 12, .inl mc) := (hfr6 26 (by omega)).trans hsDP26
  have h21 : w2 27 = .inl (k.1, 72, .inl co) := (hfr6 27 (by omega)).trans hsDP27
  have h22 : w2 28 = .inl (k.1, 12, .inl jn) := (hfr6 28 (by omega)).trans hsDP28
  have h23 : w2 29 = .inl (k.1, 12, .inl ro) := (hfr6 29 (by omega)).trans hsDP29
  rw [er5]
  refine lv_istore (lv' := [(5, .int 0), (0, .ref b), (1, .ref (a 0)), (2, .ref (a 22)), (3, .ref (a 21)), (4, .int (nI ii))]) hx hb dL_law_758 hl (by decide) rfl (fun ls hl => ?_)
  refine lv_aload_n hx hb dL_law_760 rfl (lv_at hl 3 rfl) ?_
  refine lv_aload_n hx hb dL_law_761 rfl (lv_at hl 1 rfl) ?_
  refine lv_iload hx hb dL_law_762 (lv_at hl 5 rfl) ?_
  refine lv_iconst (v := 1) hx hb dL_law_764 (by decide) ?_
  refine ln_iadd (x := ii) (y := 1) hx hb dL_law_765 ?_
  refine l_sld (v := q) hx hb hX hbl hbA hS (j := ii + 1) (by omega) (by omega) h_1 dL_law_766 ?_
  refine g_Vi (i := 22) (As := [.int q]) (rest := []) (kD_unfed_k hA h16 ⟨h17, h18, h19, h20, h21, h22, h23⟩ q hqD hnD) calD_unfed cvD_unfed mlL_127 hx hb hml hown hts hB hG hK hS (by decide) h16 rfl ⟨by decide, by decide⟩ rfl hl.1 rfl (Nat.le_of_ble_eq_true rfl) dL_law_767 ⟨by show cs + 0 + 0 ≤ 1087; omega, by show ss + 0 + 0 ≤ 9297; omega⟩ (fun r24 w25 H locs hp26 hG hS => ?_)
  obtain ⟨er35, h27, ⟨h28, h29, h30, h31, h32, h33, h34⟩, hfr36⟩ := hp26
  have h37 : w25 0 = .inr (0, [.ref (a 1), .ref (a 9), .ref (a 12), .ref (a 15)]) := (hfr36 0 (by omega)).trans h7
  have h38 : w25 1 = .inr (1, [.ref (a 2), .ref (a 3), .ref (a 4), .ref (a 5), .ref (a 6), .ref (a 7), .ref (a 8), .int (nI n)]) := (hfr36 1 (by omega)).trans h8
  have h39 : w25 2 = .inl (k.2.1, 12, .inr (.inl up)) := (hfr36 2 (by omega)).trans h9
  have h40 : w25 3 = .inl (k.2.1, 12, .inr (.inl lo)) := (hfr36 3 (by omega)).trans h10
  have h41 : w25 4 = .inl (k.1, 12, .inl fa) := (hfr36 4 (by omega)).trans h11
  have h42 : w25 5 = .inl (k.1, 72, .inl we) := (hfr36 5 (by omega)).trans h12
  have h43 : w25 6 = .inl (k.1, 72, .inl ti) := (hfr36 6 (by omega)).trans h13
  have h44 : w25 7 = .inl (k.1, 12, .inl ri) := (hfr36 7 (by omega)).trans h14
  have h45 : w25 8 = .inl (k.2.2, 144, .inl jo) := (hfr36 8 (by omega)).trans h15
  have h46 : w25 21 = .inl (k.2.1, 1, .inr (.inl (vp_updL oo 0 ((unF (rFeed up lo ri jo n) q n 0 0).toInt64)))) := (hfr36 21 (by omega)).trans h4
  rw [er35]
  refine lv_istore (lv' := [(6, .int (unF (mFeed rd ma mb mc co jn ro n) q n 0 0)), (5, .int 0), (0, .ref b), (1, .ref (a 0)), (2, .ref (a 22)), (3, .ref (a 21)), (4, .int (nI ii))]) hx hb dL_law_770 hl (by decide) rfl (fun ls hl => ?_)
  refine lv_aload_n hx hb dL_law_772 rfl (lv_at hl 4 rfl) ?_
  refine g_ViR (i := 22) (As := []) (rest := []) (kD_thrown hA h27) calD_thrown cvD_thrown mlL_89 hx hb hml hown hts hB hG hK hS (by decide) h27 rfl ⟨by decide, by decide⟩ rfl hl.1 rfl (Nat.le_of_ble_eq_true rfl) dL_law_773 ⟨by show cs + 0 + 0 + 0 ≤ 1087; omega, by show ss + 0 + 0 + 0 ≤ 9297; omega⟩ (fun H locs hG hS => ?_)
  refine lv_iload hx hb dL_law_776 (lv_at hl 1 rfl) ?_
  refine lv_icmp_eq (tgt := 783) hx hb dL_law_778 (by decide) (fun _ => ?_) (fun h9 => absurd h9 (by decide))
  refine lv_iload hx hb dL_law_783 (lv_at hl 1 rfl) ?_
  refine lv_if_ne (tgt := 800) hx hb dL_law_785 (by decide) (fun h9 => absurd h9 (by decide)) (fun _ => ?_)
  refine lv_aload_n hx hb dL_law_788 rfl (lv_at hl 5 rfl) ?_
  refine lv_iconst (v := 0) hx hb dL_law_789 (by decide) ?_
  refine g_lald hx hb hK hG 21 (by decide) h46 (j := 0) (by omega) (by decide) dL_law_790 ?_
  refine lv_iload hx hb dL_law_791 (lv_at hl 0 rfl) ?_
  refine lv_i2l hx hb dL_law_793 rfl ?_
  refine W.lcmp hx hb dL_law_794 ?_
  refine lc_if_eq (tgt := 800) hx hb dL_law_795 (by decide) (fun c49 => ?_) (fun c49 => (absurd (pk_uLs.trans hval) c49))
  refine lv_goto (tgt := 1235) hx hb dL_law_800 (by decide) ?_
  exact kk _ _ _ _  h37 ⟨h38, h39, h40, h41, h42, h43, h44, h45⟩ h46 h27 ⟨h28, h29, h30, h31, h32, h33, h34⟩  (fun z hz => (hfr36 z hz.2).trans (hfr6 z hz.1)) hG hS (lv_sub hl [2, 3, 4, 5, 6] rfl)

set_option maxRecDepth 100000 in
set_option maxHeartbeats 4000000 in
theorem st_unfed_z {p : Program} {l : Launch} {e : Env} {s : State} {m : MethodId} {args : Array Value} {below : List Frame} {meth : Method} {c : Code} {Q : State → Prop} (hl9 : l.stackTraces = false) {D : va_G} {k : ClassId × ClassId × ClassId} {a : Nat → Nat} {B0 : Nat} {w : Nat → va_E} (hA : gA B0 a) (hx : p.tables.exec = Jvm.exec) (hb : c.code = cL_law) (hml : c.maxLocals = 8) (hown : s.vm.findClass RL = some m.cls) (hts : ∀ w ∈ TB, w.before args s = true) (hB : B0 ≤ s.heap.size) (hK : va_K D vwCl (gT k) s) (hXS : xS B0 s) {b Ls : Nat} {xs : Nat → Int32} (hX : va_X b Ls xs s s.heap) (hbl : b < s.heap.size) (hbA : ¬ gF B0 b) (hL9 : Ls ≤ 2048) {ii : Nat} (hi4 : ii + 4 ≤ Ls) {n : Nat} {up : Nat → Int64} {lo : Nat → Int64} {fa : Nat → Int32} {we : Nat → Int32} {ti : Nat → Int32} {ri : Nat → Int32} {jo : Nat → Int32} {th : Int32} {nr : Nat} {nf : Nat} {bw : Int32} {bd : Int32} {nt : Nat} {rd : Nat → Int32} {ma : Nat → Int32} {mb : Nat → Int32} {mc : Nat → Int32} {co : Nat → Int32} {jn : Nat → Int32} {ro : Nat → Int32} (hsX : sX k a w ) (hsP : sP k a w n up lo fa we ti ri jo) (hsD : sD k a w th n nr nf bw bd nt) (hsDP : sDP k a w rd ma mb mc co jn ro) (q : Int32) (h_1 : xs (ii + 1) = q) (hq : q < 0) (hqD : q < 0) {H : Heap} {locs : List Loc} {ls : Array Slot} (hG : gW D a w H) (hS : va_S (gF B0) s.heap H locs) (hl : lv_has ls 8 [(0, .ref b), (1, .ref (a 0)), (2, .ref (a 22)), (3, .ref (a 21)), (4, .int (nI ii))]) {cs ss : Nat} (hcs : cs + 1 ≤ 1087) (hss : ss + 6 ≤ 9297)
 (kk : ∀ (w' : Nat → va_E) (H' : Heap) (locs' : List Loc) (ls' : Array Slot) , sX k a w' → sP k a w' n up lo fa we ti ri jo → sD k a w' 1 n nr nf bw bd nt → sDP k a w' rd ma mb mc co jn ro → (∀ z, (z < 22 ∨ 29 < z) → w' z = w z) → gW D a w' H' → va_S (gF B0) s.heap H' locs' → lv_has ls' 8 [(0, .ref b), (1, .ref (a 0)), (2, .ref (a 22)), (3, .ref (a 21)), (4, .int (nI ii))] → W p l e room_1 s m args below meth c H' locs' (cs + 1) (ss + 6) Q (F0 m 1235 ls' [])) : W p l e room_1 s m args below meth c H locs cs ss Q (F0 m 747 ls []) := by
  have hsX0 := hsX
  obtain ⟨hsP1, hsP2, hsP3, hsP4, hsP5, hsP6, hsP7, hsP8⟩ := hsP
  have hsD22 := hsD
  obtain ⟨hsDP23, hsDP24, hsDP25, hsDP26, hsDP27, hsDP28, hsDP29⟩ := hsDP
  refine lv_aload_n hx hb dL_law_747 rfl (lv_at hl 1 rfl) ?_
  refine lv_aload_n hx hb dL_law_748 rfl (lv_at hl 0 rfl) ?_
  refine lv_iload hx hb dL_law_749 (lv_at hl 4 rfl) ?_
  refine lv_iconst (v := 1) hx hb dL_law_751 (by decide) ?_
  refine ln_iadd (x := ii) (y := 1) hx hb dL_law_752 ?_
  refine l_sld (v := q) hx hb hX hbl hbA hS (j := ii + 1) (by omega) (by omega) h_1 dL_law_753 ?_
  refine lv_aload_n hx hb dL_law_754 rfl (lv_at hl 3 rfl) ?_
  refine y_Si (As := [.ref (a 0), .int q, .ref (a 21)]) (rest := []) (kL_unfed_z hl9 hA hsX0 ⟨hsP1, hsP2, hsP3, hsP4, hsP5, hsP6, hsP7, hsP8⟩ q hq) calL_unfed mlL_125 hx hb hml hown hts hB hG hK hS hXS ⟨by decide, by decide⟩ rfl hl.1 rfl (Nat.le_of_ble_eq_true rfl) dL_law_755 ⟨by show cs + 1 ≤ 1087; omega, by show ss + 6 ≤ 9297; omega⟩ (fun H locs hG hS => ?_)
  refine lv_istore (lv' := [(5, .int 1), (0, .ref b), (1, .ref (a 0)), (2, .ref (a 22)), (3, .ref (a 21)), (4, .int (nI ii))]) hx hb dL_law_758 hl (by decide) rfl (fun ls hl => ?_)
  refine lv_aload_n hx hb dL_law_760 rfl (lv_at hl 3 rfl) ?_
  refine lv_aload_n hx hb dL_law_761 rfl (lv_at hl 1 rfl) ?_
  refine lv_iload hx hb dL_law_762 (lv_at hl 5 rfl) ?_
  refine lv_iconst (v := 1) hx hb dL_law_764 (by decide) ?_
  refine ln_iadd (x := ii) (y := 1) hx hb dL_law_765 ?_
  refine l_sld (v := q) hx hb hX hbl hbA hS (j := ii + 1) (by omega) (by omega) h_1 dL_law_766 ?_
  refine g_Vi (i := 22) (As := [.int q]) (rest := []) (kD_unfed_z hA hsD22 ⟨hsDP23, hsDP24, hsDP25, hsDP26, hsDP27, hsDP28, hsDP29⟩ q hqD) calD_unfed cvD_unfed mlL_127 hx hb hml hown hts hB hG hK hS (by decide) hsD22 rfl ⟨by decide, by decide⟩ rfl hl.1 rfl (Nat.le_of_ble_eq_true rfl) dL_law_767 ⟨by show cs + 1 + 0 ≤ 1087; omega, by show ss + 6 + 0 ≤ 9297; omega⟩ (fun r1 w2 H locs hp3 hG hS => ?_)
  obtain ⟨er12, h4, ⟨h5, h6, h7, h8, h9, h10, h11⟩, hfr13⟩ := hp3
  have h14 : w2 0 = .inr (0, [.ref (a 1), .ref (a 9), .ref (a 12), .ref (a 15)]) := (hfr13 0 (by omega)).trans hsX0
  have h15 : w2 1 = .inr (1, [.ref (a 2), .ref (a 3), .ref (a 4), .ref (a 5), .ref (a 6), .ref (a 7), .ref (a 8), .int (nI n)]) := (hfr13 1 (by omega)).trans hsP1
  have h16 : w2 2 = .inl (k.2.1, 12, .inr (.inl up)) := (hfr13 2 (by omega)).trans hsP2
  have h17 : w2 3 = .inl (k.2.1, 12, .inr (.inl lo)) := (hfr13 3 (by omega)).trans hsP3
  have h18 : w2 4 = .inl (k.1, 12, .inl fa) := (hfr13 4 (by omega)).trans hsP4
  have h19 : w2 5 = .inl (k.1, 72, .inl we) := (hfr13 5 (by omega)).trans hsP5
  have h20 : w2 6 = .inl (k.1, 72, .inl ti) := (hfr13 6 (by omega)).trans hsP6
  have h21 : w2 7 = .inl (k.1, 12, .inl ri) := (hfr13 7 (by omega)).trans hsP7
  have h22 : w2 8 = .inl (k.2.2, 144, .inl jo) := (hfr13 8 (by omega)).trans hsP8
  rw [er12]
  refine lv_istore (lv' := [(6, .int 0), (5, .int 1), (0, .ref b), (1, .ref (a 0)), (2, .ref (a 22)), (3, .ref (a 21)), (4, .int (nI ii))]) hx hb dL_law_770 hl (by decide) rfl (fun ls hl => ?_)
  refine lv_aload_n hx hb dL_law_772 rfl (lv_at hl 4 rfl) ?_
  refine g_ViR (i := 22) (As := []) (rest := []) (kD_thrown hA h4) calD_thrown cvD_thrown mlL_89 hx hb hml hown hts hB hG hK hS (by decide) h4 rfl ⟨by decide, by decide⟩ rfl hl.1 rfl (Nat.le_of_ble_eq_true rfl) dL_law_773 ⟨by show cs + 1 + 0 + 0 ≤ 1087; omega, by show ss + 6 + 0 + 0 ≤ 9297; omega⟩ (fun H locs hG hS => ?_)
  refine lv_iload hx hb dL_law_776 (lv_at hl 1 rfl) ?_
  refine lv_icmp_eq (tgt := 783) hx hb dL_law_778 (by decide) (fun _ => ?_) (fun h9 => absurd h9 (by decide))
  refine lv_iload hx hb dL_law_783 (lv_at hl 1 rfl) ?_
  refine lv_if_ne (tgt := 800) hx hb dL_law_785 (by decide) (fun _ => ?_) (fun h9 => absurd h9 (by decide))
  refine lv_goto (tgt := 1235) hx hb dL_law_800 (by decide) ?_
  exact kk _ _ _ _  h14 ⟨h15, h16, h17, h18, h19, h20, h21, h22⟩ h4 ⟨h5, h6, h7, h8, h9, h10, h11⟩  hfr13 hG hS (lv_sub hl [2, 3, 4, 5, 6] rfl)

set_option maxRecDepth 100000 in
set_option maxHeartbeats 4000000 in
theorem st_flowRow_k {p : Program} {l : Launch} {e : Env} {s : State} {m : MethodId} {args : Array Value} {below : List Frame} {meth : Method} {c : Code} {Q : State → Prop} (hl9 : l.stackTraces = false) {D : va_G} {k : ClassId × ClassId × ClassId} {a : Nat → Nat} {B0 : Nat} {w : Nat → va_E} (hA : gA B0 a) (hx : p.tables.exec = Jvm.exec) (hb : c.code = cL_law) (hml : c.maxLocals = 8) (hown : s.vm.findClass RL = some m.cls) (hts : ∀ w ∈ TB, w.before args s = true) (hB : B0 ≤ s.heap.size) (hK : va_K D vwCl (gT k) s) (hXS : xS B0 s) {b Ls : Nat} {xs : Nat → Int32} (hX : va_X b Ls xs s s.heap) (hbl : b < s.heap.size) (hbA : ¬ gF B0 b) (hL9 : Ls ≤ 2048) {ii : Nat} (hi4 : ii + 4 ≤ Ls) {nf : Nat} {fo : Nat → Int32} {ff : Nat → Int32} {oo : Nat → Int64} {th : Int32} {n : Nat} {nr : Nat} {bw : Int32} {bd : Int32} {nt : Nat} {mo : Nat → Int32} {mf : Nat → Int32} (hsX : sX k a w ) (hsF : sF k a w nf fo ff) (hsO : sO k a w oo) (hsD : sD k a w th n nr nf bw bd nt) (hsDF : sDF k a w mo mf) (q : Int32) (f : Int32) (h_1 : xs (ii + 1) = q) (h_2 : xs (ii + 2) = f) (hn : nf < 8) (h1 : opR q) (h2 : flR f) (hm : nf = 0 ∨ (¬ q ≤ fo (nf - 1) ∧ ¬ f < ff (nf - 1))) (hnD : nf < 8) (h1D : rngI q 0 10000) (h2D : rngI f 0 1000000) (hmD : nf = 0 ∨ (¬ q ≤ mo (nf - 1) ∧ ¬ f < mf (nf - 1))) (hval : (nI (nf + 1)).toInt64 = (nI (nf + 1)).toInt64) {H : Heap} {locs : List Loc} {ls : Array Slot} (hG : gW D a w H) (hS : va_S (gF B0) s.heap H locs) (hl : lv_has ls 8 [(0, .ref b), (1, .ref (a 0)), (2, .ref (a 22)), (3, .ref (a 21)), (4, .int (nI ii))]) {cs ss : Nat} (hcs : cs + 1 ≤ 1087) (hss : ss + 6 ≤ 9297)
 (kk : ∀ (w' : Nat → va_E) (H' : Heap) (locs' : List Loc) (ls' : Array Slot) , sX k a w' → sF k a w' (nf + 1) (upd fo nf q) (upd ff nf f) → sO k a w' (vp_updL oo 0 ((nI (nf + 1)).toInt64)) → sD k a w' 0 n nr (nf + 1) bw bd nt → sDF k a w' (upd mo nf q) (upd mf nf f) → (∀ z, ((z < 12 ∨ 14 < z) ∧ z ≠ 21) ∧ ((z < 32 ∨ 33 < z) ∧ z ≠ 22) → w' z = w z) → gW D a w' H' → va_S (gF B0) s.heap H' locs' → lv_has ls' 8 [(0, .ref b), (1, .ref (a 0)), (2, .ref (a 22)), (3, .ref (a 21)), (4, .int (nI ii))] → W p l e room_1 s m args below meth c H' locs' (cs + 0) (ss + 0) Q (F0 m 1235 ls' [])) : W p l e room_1 s m args below meth c H locs cs ss Q (F0 m 803 ls []) := by
  have hsX0 := hsX
  obtain ⟨hsF12, hsF13, hsF14⟩ := hsF
  have hsO21 := hsO
  have hsD22 := hsD
  obtain ⟨hsDF32, hsDF33⟩ := hsDF
  refine lv_aload_n hx hb dL_law_803 rfl (lv_at hl 1 rfl) ?_
  refine lv_aload_n hx hb dL_law_804 rfl (lv_at hl 0 rfl) ?_
  refine lv_iload hx hb dL_law_805 (lv_at hl 4 rfl) ?_
  refine lv_iconst (v := 1) hx hb dL_law_807 (by decide) ?_
  refine ln_iadd (x := ii) (y := 1) hx hb dL_law_808 ?_
  refine l_sld (v := q) hx hb hX hbl hbA hS (j := ii + 1) (by omega) (by omega) h_1 dL_law_809 ?_
  refine lv_aload_n hx hb dL_law_810 rfl (lv_at hl 0 rfl) ?_
  refine lv_iload hx hb dL_law_811 (lv_at hl 4 rfl) ?_
  refine lv_iconst (v := 2) hx hb dL_law_813 (by decide) ?_
  refine ln_iadd (x := ii) (y := 2) hx hb dL_law_814 ?_
  refine l_sld (v := f) hx hb hX hbl hbA hS (j := ii + 2) (by omega) (by omega) h_2 dL_law_815 ?_
  refine lv_aload_n hx hb dL_law_816 rfl (lv_at hl 3 rfl) ?_
  refine h_Si (As := [.ref (a 0), .int q, .int f, .ref (a 21)]) (rest := []) (kL_flowRow_k hA hsX0 ⟨hsF12, hsF13, hsF14⟩ hsO21 q f hn h1 h2 hm) calL_flowRow mlL_128 hx hb hml hown hts hB hG hK hS ⟨by decide, by decide⟩ rfl hl.1 rfl (Nat.le_of_ble_eq_true rfl) dL_law_817 ⟨by show cs + 0 ≤ 1087; omega, by show ss + 0 ≤ 9297; omega⟩ (fun r1 w2 H locs hp3 hG hS => ?_)
  obtain ⟨er8, ⟨h4, h5, h6⟩, h7, hfr9⟩ := hp3
  have h10 : w2 0 = .inr (0, [.ref (a 1), .ref (a 9), .ref (a 12), .ref (a 15)]) := (hfr9 0 (by omega)).trans hsX0
  have h11 : w2 22 = .inr (5, [.int th, .int (nI n), .ref (a 23), .ref (a 24), .ref (a 25), .ref (a 26), .ref (a 27), .ref (a 28), .ref (a 29), .int (nI nr), .ref (a 30), .ref (a 31), .int (nI nf), .ref (a 32), .ref (a 33), .int bw, .int bd, .int (nI nt), .ref (a 34), .ref (a 35), .ref (a 36), .ref (a 37)]) := (hfr9 22 (by omega)).trans hsD22
  have h12 : w2 32 = .inl (k.1, 8, .inl mo) := (hfr9 32 (by omega)).trans hsDF32
  have h13 : w2 33 = .inl (k.1, 8, .inl mf) := (hfr9 33 (by omega)).trans hsDF33
  rw [er8]
  refine lv_istore (lv' := [(5, .int 0), (0, .ref b), (1, .ref (a 0)), (2, .ref (a 22)), (3, .ref (a 21)), (4, .int (nI ii))]) hx hb dL_law_820 hl (by decide) rfl (fun ls hl => ?_)
  refine lv_aload_n hx hb dL_law_822 rfl (lv_at hl 3 rfl) ?_
  refine lv_aload_n hx hb dL_law_823 rfl (lv_at hl 1 rfl) ?_
  refine lv_iload hx hb dL_law_824 (lv_at hl 5 rfl) ?_
  refine lv_iconst (v := 1) hx hb dL_law_826 (by decide) ?_
  refine ln_iadd (x := ii) (y := 1) hx hb dL_law_827 ?_
  refine l_sld (v := q) hx hb hX hbl hbA hS (j := ii + 1) (by omega) (by omega) h_1 dL_law_828 ?_
  refine lv_aload_n hx hb dL_law_829 rfl (lv_at hl 1 rfl) ?_
  refine lv_iload hx hb dL_law_830 (lv_at hl 5 rfl) ?_
  refine lv_iconst (v := 2) hx hb dL_law_832 (by decide) ?_
  refine ln_iadd (x := ii) (y := 2) hx hb dL_law_833 ?_
  refine l_sld (v := f) hx hb hX hbl hbA hS (j := ii + 2) (by omega) (by omega) h_2 dL_law_834 ?_
  refine g_Vi (i := 22) (As := [.int q, .int f]) (rest := []) (kD_flowRow_k hA h11 ⟨h12, h13⟩ q f hnD h1D h2D hmD) calD_flowRow cvD_flowRow mlL_130 hx hb hml hown hts hB hG hK hS (by decide) h11 rfl ⟨by decide, by decide⟩ rfl hl.1 rfl (Nat.le_of_ble_eq_true rfl) dL_law_835 ⟨by show cs + 0 + 0 ≤ 1087; omega, by show ss + 0 + 0 ≤ 9297; omega⟩ (fun r14 w15 H locs hp16 hG hS => ?_)
  obtain ⟨er20, h17, ⟨h18, h19⟩, hfr21⟩ := hp16
  have h22 : w15 0 = .inr (0, [.ref (a 1), .ref (a 9), .ref (a 12), .ref (a 15)]) := (hfr21 0 (by omega)).trans h10
  have h23 : w15 12 = .inr (3, [.ref (a 13), .ref (a 14), .int (nI (nf + 1))]) := (hfr21 12 (by omega)).trans h4
  have h24 : w15 13 = .inl (k.1, 8, .inl (upd fo nf q)) := (hfr21 13 (by omega)).trans h5
  have h25 : w15 14 = .inl (k.1, 8, .inl (upd ff nf f)) := (hfr21 14 (by omega)).trans h6
  have h26 : w15 21 = .inl (k.2.1, 1, .inr (.inl (vp_updL oo 0 ((nI (nf + 1)).toInt64)))) := (hfr21 21 (by omega)).trans h7
  rw [er20]
  refine lv_istore (lv' := [(6, .int (nI (nf + 1))), (5, .int 0), (0, .ref b), (1, .ref (a 0)), (2, .ref (a 22)), (3, .ref (a 21)), (4, .int (nI ii))]) hx hb dL_law_838 hl (by decide) rfl (fun ls hl => ?_)
  refine lv_aload_n hx hb dL_law_840 rfl (lv_at hl 4 rfl) ?_
  refine g_ViR (i := 22) (As := []) (rest := []) (kD_thrown hA h17) calD_thrown cvD_thrown mlL_89 hx hb hml hown hts hB hG hK hS (by decide) h17 rfl ⟨by decide, by decide⟩ rfl hl.1 rfl (Nat.le_of_ble_eq_true rfl) dL_law_841 ⟨by show cs + 0 + 0 + 0 ≤ 1087; omega, by show ss + 0 + 0 + 0 ≤ 9297; omega⟩ (fun H locs hG hS => ?_)
  refine lv_iload hx hb dL_law_844 (lv_at hl 1 rfl) ?_
  refine lv_icmp_eq (tgt := 851) hx hb dL_law_846 (by decide) (fun _ => ?_) (fun h9 => absurd h9 (by decide))
  refine lv_iload hx hb dL_law_851 (lv_at hl 1 rfl) ?_
  refine lv_if_ne (tgt := 868) hx hb dL_law_853 (by decide) (fun h9 => absurd h9 (by decide)) (fun _ => ?_)
  refine lv_aload_n hx hb dL_law_856 rfl (lv_at hl 5 rfl) ?_
  refine lv_iconst (v := 0) hx hb dL_law_857 (by decide) ?_
  refine g_lald hx hb hK hG 21 (by decide) h26 (j := 0) (by omega) (by decide) dL_law_858 ?_
  refine lv_iload hx hb dL_law_859 (lv_at hl 0 rfl) ?_
  refine lv_i2l hx hb dL_law_861 rfl ?_
  refine W.lcmp hx hb dL_law_862 ?_
  refine lc_if_eq (tgt := 868) hx hb dL_law_863 (by decide) (fun c29 => ?_) (fun c29 => (absurd (pk_uLs.trans hval) c29))
  refine lv_goto (tgt := 1235) hx hb dL_law_868 (by decide) ?_
  exact kk _ _ _ _  h22 ⟨h23, h24, h25⟩ h26 h17 ⟨h18, h19⟩  (fun z hz => (hfr21 z hz.2).trans (hfr9 z hz.1)) hG hS (lv_sub hl [2, 3, 4, 5, 6] rfl)

set_option maxRecDepth 100000 in
set_option maxHeartbeats 4000000 in
theorem st_flowRow_f {p : Program} {l : Launch} {e : Env} {s : State} {m : MethodId} {args : Array Value} {below : List Frame} {meth : Method} {c : Code} {Q : State → Prop} (hl9 : l.stackTraces = false) {D : va_G} {k : ClassId × ClassId × ClassId} {a : Nat → Nat} {B0 : Nat} {w : Nat → va_E} (hA : gA B0 a) (hx : p.tables.exec = Jvm.exec) (hb : c.code = cL_law) (hml : c.maxLocals = 8) (hown : s.vm.findClass RL = some m.cls) (hts : ∀ w ∈ TB, w.before args s = true) (hB : B0 ≤ s.heap.size) (hK : va_K D vwCl (gT k) s) (hXS : xS B0 s) {b Ls : Nat} {xs : Nat → Int32} (hX : va_X b Ls xs s s.heap) (hbl : b < s.heap.size) (hbA : ¬ gF B0 b) (hL9 : Ls ≤ 2048) {ii : Nat} (hi4 : ii + 4 ≤ Ls) {nf : Nat} {fo : Nat → Int32} {ff : Nat → Int32} {th : Int32} {n : Nat} {nr : Nat} {bw : Int32} {bd : Int32} {nt : Nat} {mo : Nat → Int32} {mf : Nat → Int32} (hsX : sX k a w ) (hsF : sF k a w nf fo ff) (hsD : sD k a w th n nr nf bw bd nt) (hsDF : sDF k a w mo mf) (q : Int32) (f : Int32) (h_1 : xs (ii + 1) = q) (h_2 : xs (ii + 2) = f) (hn : nf = 8) (hnD : nf = 8) {H : Heap} {locs : List Loc} {ls : Array Slot} (hG : gW D a w H) (hS : va_S (gF B0) s.heap H locs) (hl : lv_has ls 8 [(0, .ref b), (1, .ref (a 0)), (2, .ref (a 22)), (3, .ref (a 21)), (4, .int (nI ii))]) {cs ss : Nat} (hcs : cs + 1 ≤ 1087) (hss : ss + 6 ≤ 9297)
 (kk : ∀ (w' : Nat → va_E) (H' : Heap) (locs' : List Loc) (ls' : Array Slot) , sX k a w' → sF k a w' nf fo ff → sD k a w' 1 n nr nf bw bd nt → sDF k a w' mo mf → (∀ z, ((z < 32 ∨ 33 < z) ∧ z ≠ 22) → w' z = w z) → gW D a w' H' → va_S (gF B0) s.heap H' locs' → lv_has ls' 8 [(0, .ref b), (1, .ref (a 0)), (2, .ref (a 22)), (3, .ref (a 21)), (4, .int (nI ii))] → W p l e room_1 s m args below meth c H' locs' (cs + 1) (ss + 6) Q (F0 m 1235 ls' [])) : W p l e room_1 s m args below meth c H locs cs ss Q (F0 m 803 ls []) := by
  have hsX0 := hsX
  obtain ⟨hsF12, hsF13, hsF14⟩ := hsF
  have hsD22 := hsD
  obtain ⟨hsDF32, hsDF33⟩ := hsDF
  refine lv_aload_n hx hb dL_law_803 rfl (lv_at hl 1 rfl) ?_
  refine lv_aload_n hx hb dL_law_804 rfl (lv_at hl 0 rfl) ?_
  refine lv_iload hx hb dL_law_805 (lv_at hl 4 rfl) ?_
  refine lv_iconst (v := 1) hx hb dL_law_807 (by decide) ?_
  refine ln_iadd (x := ii) (y := 1) hx hb dL_law_808 ?_
  refine l_sld (v := q) hx hb hX hbl hbA hS (j := ii + 1) (by omega) (by omega) h_1 dL_law_809 ?_
  refine lv_aload_n hx hb dL_law_810 rfl (lv_at hl 0 rfl) ?_
  refine lv_iload hx hb dL_law_811 (lv_at hl 4 rfl) ?_
  refine lv_iconst (v := 2) hx hb dL_law_813 (by decide) ?_
  refine ln_iadd (x := ii) (y := 2) hx hb dL_law_814 ?_
  refine l_sld (v := f) hx hb hX hbl hbA hS (j := ii + 2) (by omega) (by omega) h_2 dL_law_815 ?_
  refine lv_aload_n hx hb dL_law_816 rfl (lv_at hl 3 rfl) ?_
  refine y_Si (As := [.ref (a 0), .int q, .int f, .ref (a 21)]) (rest := []) (kL_flowRow_f hl9 hA hsX0 ⟨hsF12, hsF13, hsF14⟩ q f hn) calL_flowRow mlL_128 hx hb hml hown hts hB hG hK hS hXS ⟨by decide, by decide⟩ rfl hl.1 rfl (Nat.le_of_ble_eq_true rfl) dL_law_817 ⟨by show cs + 1 ≤ 1087; omega, by show ss + 6 ≤ 9297; omega⟩ (fun H locs hG hS => ?_)
  refine lv_istore (lv' := [(5, .int 1), (0, .ref b), (1, .ref (a 0)), (2, .ref (a 22)), (3, .ref (a 21)), (4, .int (nI ii))]) hx hb dL_law_820 hl (by decide) rfl (fun ls hl => ?_)
  refine lv_aload_n hx hb dL_law_822 rfl (lv_at hl 3 rfl) ?_
  refine lv_aload_n hx hb dL_law_823 rfl (lv_at hl 1 rfl) ?_
  refine lv_iload hx hb dL_law_824 (lv_at hl 5 rfl) ?_
  refine lv_iconst (v := 1) hx hb dL_law_826 (by decide) ?_
  refine ln_iadd (x := ii) (y := 1) hx hb dL_law_827 ?_
  refine l_sld (v := q) hx hb hX hbl hbA hS (j := ii + 1) (by omega) (by omega) h_1 dL_law_828 ?_
  refine lv_aload_n hx hb dL_law_829 rfl (lv_at hl 1 rfl) ?_
  refine lv_iload hx hb dL_law_830 (lv_at hl 5 rfl) ?_
  refine lv_iconst (v := 2) hx hb dL_law_832 (by decide) ?_
  refine ln_iadd (x := ii) (y := 2) hx hb dL_law_833 ?_
  refine l_sld (v := f) hx hb hX hbl hbA hS (j := ii + 2) (by omega) (by omega) h_2 dL_law_834 ?_
  refine g_Vi (i := 22) (As := [.int q, .int f]) (rest := []) (kD_flowRow_f hA hsD22 ⟨hsDF32, hsDF33⟩ q f hnD) calD_flowRow cvD_flowRow mlL_130 hx hb hml hown hts hB hG hK hS (by decide) hsD22 rfl ⟨by decide, by decide⟩ rfl hl.1 rfl (Nat.le_of_ble_eq_true rfl) dL_law_835 ⟨by show cs + 1 + 0 ≤ 1087; omega, by show ss + 6 + 0 ≤ 9297; omega⟩ (fun r1 w2 H locs hp3 hG hS => ?_)
  obtain ⟨er7, h4, ⟨h5, h6⟩, hfr8⟩ := hp3
  have h9 : w2 0 = .inr (0, [.ref (a 1), .ref (a 9), .ref (a 12), .ref (a 15)]) := (hfr8 0 (by omega)).trans hsX0
  have h10 : w2 12 = .inr (3, [.ref (a 13), .ref (a 14), .int (nI nf)]) := (hfr8 12 (by omega)).trans hsF12
  have h11 : w2 13 = .inl (k.1, 8, .inl fo) := (hfr8 13 (by omega)).trans hsF13
  have h12 : w2 14 = .inl (k.1, 8, .inl ff) := (hfr8 14 (by omega)).trans hsF14
  rw [er7]
  refine lv_istore (lv' := [(6, .int 0), (5, .int 1), (0, .ref b), (1, .ref (a 0)), (2, .ref (a 22)), (3, .ref (a 21)), (4, .int (nI ii))]) hx hb dL_law_838 hl (by decide) rfl (fun ls hl => ?_)
  refine lv_aload_n hx hb dL_law_840 rfl (lv_at hl 4 rfl) ?_
  refine g_ViR (i := 22) (As := []) (rest := []) (kD_thrown hA h4) calD_thrown cvD_thrown mlL_89 hx hb hml hown hts hB hG hK hS (by decide) h4 rfl ⟨by decide, by decide⟩ rfl hl.1 rfl (Nat.le_of_ble_eq_true rfl) dL_law_841 ⟨by show cs + 1 + 0 + 0 ≤ 1087; omega, by show ss + 6 + 0 + 0 ≤ 9297; omega⟩ (fun H locs hG hS => ?_)
  refine lv_iload hx hb dL_law_844 (lv_at hl 1 rfl) ?_
  refine lv_icmp_eq (tgt := 851) hx hb dL_law_846 (by decide) (fun _ => ?_) (fun h9 => absurd h9 (by decide))
  refine lv_iload hx hb dL_law_851 (lv_at hl 1 rfl) ?_
  refine lv_if_ne (tgt := 868) hx hb dL_law_853 (by decide) (fun _ => ?_) (fun h9 => absurd h9 (by decide))
  refine lv_goto (tgt := 1235) hx hb dL_law_868 (by decide) ?_
  exact kk _ _ _ _  h9 ⟨h10, h11, h12⟩ h4 ⟨h5, h6⟩  hfr8 hG hS (lv_sub hl [2, 3, 4, 5, 6] rfl)

set_option maxRecDepth 100000 in
set_option maxHeartbeats 4000000 in
theorem st_flowRow_z {p : Program} {l : Launch} {e : Env} {s : State} {m : MethodId} {args : Array Value} {below : List Frame} {meth : Method} {c : Code} {Q : State → Prop} (hl9 : l.stackTraces = false) {D : va_G} {k : ClassId × ClassId × ClassId} {a : Nat → Nat} {B0 : Nat} {w : Nat → va_E} (hA : gA B0 a) (hx : p.tables.exec = Jvm.exec) (hb : c.code = cL_law) (hml : c.maxLocals = 8) (hown : s.vm.findClass RL = some m.cls) (hts : ∀ w ∈ TB, w.before args s = true) (hB : B0 ≤ s.heap.size) (hK : va_K D vwCl (gT k) s) (hXS : xS B0 s) {b Ls : Nat} {xs : Nat → Int32} (hX : va_X b Ls xs s s.heap) (hbl : b < s.heap.size) (hbA : ¬ gF B0 b) (hL9 : Ls ≤ 2048) {ii : Nat} (hi4 : ii + 4 ≤ Ls) {nf : Nat} {fo : Nat → Int32} {ff : Nat → Int32} {th : Int32} {n : Nat} {nr : Nat} {bw : Int32} {bd : Int32} {nt : Nat} {mo : Nat → Int32} {mf : Nat → Int32} (hsX : sX k a w ) (hsF : sF k a w nf fo ff) (hsD : sD k a w th n nr nf bw bd nt) (hsDF : sDF k a w mo mf) (q : Int32) (f : Int32) (h_1 : xs (ii + 1) = q) (h_2 : xs (ii + 2) = f) (hn : nf < 8) (hz : ¬ (opR q ∧ flR f)) (hnD : nf < 8) (hzD : ¬ (rngI q 0 10000 ∧ rngI f 0 1000000)) {H : Heap} {locs : List Loc} {ls : Array Slot} (hG : gW D a w H) (hS : va_S (gF B0) s.heap H locs) (hl : lv_has ls 8 [(0, .ref b), (1, .ref (a 0)), (2, .ref (a 22)), (3, .ref (a 21)), (4, .int (nI ii))]) {cs ss : Nat} (hcs : cs + 1 ≤ 1087) (hss : ss + 6 ≤ 9297)
 (kk : ∀ (w' : Nat → va_E) (H' : Heap) (locs' : List Loc) (ls' : Array Slot) , sX k a w' → sF k a w' nf fo ff → sD k a w' 2 n nr nf bw bd nt → sDF k a w' mo mf → (∀ z, ((z < 32 ∨ 33 < z) ∧ z ≠ 22) → w' z = w z) → gW D a w' H' → va_S (gF B0) s.heap H' locs' → lv_has ls' 8 [(0, .ref b), (1, .ref (a 0)), (2, .ref (a 22)), (3, .ref (a 21)), (4, .int (nI ii))] → W p l e room_1 s m args below meth c H' locs' (cs + 1) (ss + 6) Q (F0 m 1235 ls' [])) : W p l e room_1 s m args below meth c H locs cs ss Q (F0 m 803 ls []) := by
  have hsX0 := hsX
  obtain ⟨hsF12, hsF13, hsF14⟩ := hsF
  have hsD22 := hsD
  obtain ⟨hsDF32, hsDF33⟩ := hsDF
  refine lv_aload_n hx hb dL_law_803 rfl (lv_at hl 1 rfl) ?_
  refine lv_aload_n hx hb dL_law_804 rfl (lv_at hl 0 rfl) ?_
  refine lv_iload hx hb dL_law_805 (lv_at hl 4 rfl) ?_
  refine lv_iconst (v := 1) hx hb dL_law_807 (by decide) ?_
  refine ln_iadd (x := ii) (y := 1) hx hb dL_law_808 ?_
  refine l_sld (v := q) hx hb hX hbl hbA hS (j := ii + 1) (by omega) (by omega) h_1 dL_law_809 ?_
  refine lv_aload_n hx hb dL_law_810 rfl (lv_at hl 0 rfl) ?_
  refine lv_iload hx hb dL_law_811 (lv_at hl 4 rfl) ?_
  refine lv_iconst (v := 2) hx hb dL_law_813 (by decide) ?_
  refine ln_iadd (x := ii) (y := 2) hx hb dL_law_814 ?_
  refine l_sld (v := f) hx hb hX hbl hbA hS (j := ii + 2) (by omega) (by omega) h_2 dL_law_815 ?_
  refine lv_aload_n hx hb dL_law_816 rfl (lv_at hl 3 rfl) ?_
  refine y_Si (As := [.ref (a 0), .int q, .int f, .ref (a 21)]) (rest := []) (kL_flowRow_z hl9 hA hsX0 ⟨hsF12, hsF13, hsF14⟩ q f hn hz) calL_flowRow mlL_128 hx hb hml hown hts hB hG hK hS hXS ⟨by decide, by decide⟩ rfl hl.1 rfl (Nat.le_of_ble_eq_true rfl) dL_law_817 ⟨by show cs + 1 ≤ 1087; omega, by show ss + 6 ≤ 9297; omega⟩ (fun H locs hG hS => ?_)
  refine lv_istore (lv' := [(5, .int 2), (0, .ref b), (1, .ref (a 0)), (2, .ref (a 22)), (3, .ref (a 21)), (4, .int (nI ii))]) hx hb dL_law_820 hl (by decide) rfl (fun ls hl => ?_)
  refine lv_aload_n hx hb dL_law_822 rfl (lv_at hl 3 rfl) ?_
  refine lv_aload_n hx hb dL_law_823 rfl (lv_at hl 1 rfl) ?_
  refine lv_iload hx hb dL_law_824 (lv_at hl 5 rfl) ?_
  refine lv_iconst (v := 1) hx hb dL_law_826 (by decide) ?_
  refine ln_iadd (x := ii) (y := 1) hx hb dL_law_827 ?_
  refine l_sld (v := q) hx hb hX hbl hbA hS (j := ii + 1) (by omega) (by omega) h_1 dL_law_828 ?_
  refine lv_aload_n hx hb dL_law_829 rfl (lv_at hl 1 rfl) ?_
  refine lv_iload hx hb dL_law_830 (lv_at hl 5 rfl) ?_
  refine lv_iconst (v := 2) hx hb dL_law_832 (by decide) ?_
  refine ln_iadd (x := ii) (y := 2) hx hb dL_law_833 ?_
  refine l_sld (v := f) hx hb hX hbl hbA hS (j := ii + 2) (by omega) (by omega) h_2 dL_law_834 ?_
  refine g_Vi (i := 22) (As := [.int q, .int f]) (rest := []) (kD_flowRow_z hA hsD22 ⟨hsDF32, hsDF33⟩ q f hnD hzD) calD_flowRow cvD_flowRow mlL_130 hx hb hml hown hts hB hG hK hS (by decide) hsD22 rfl ⟨by decide, by decide⟩ rfl hl.1 rfl (Nat.le_of_ble_eq_true rfl) dL_law_835 ⟨by show cs + 1 + 0 ≤ 1087; omega, by show ss + 6 + 0 ≤ 9297; omega⟩ (fun r1 w2 H locs hp3 hG hS => ?_)
  obtain ⟨er7, h4, ⟨h5, h6⟩, hfr8⟩ := hp3
  have h9 : w2 0 = .inr (0, [.ref (a 1), .ref (a 9), .ref (a 12), .ref (a 15)]) := (hfr8 0 (by omega)).trans hsX0
  have h10 : w2 12 = .inr (3, [.ref (a 13), .ref (a 14), .int (nI nf)]) := (hfr8 12 (by omega)).trans hsF12
  have h11 : w2 13 = .inl (k.1, 8, .inl fo) := (hfr8 13 (by omega)).trans hsF13
  have h12 : w2 14 = .inl (k.1, 8, .inl ff) := (hfr8 14 (by omega)).trans hsF14
  rw [er7]
  refine lv_istore (lv' := [(6, .int 0), (5, .int 2), (0, .ref b), (1, .ref (a 0)), (2, .ref (a 22)), (3, .ref (a 21)), (4, .int (nI ii))]) hx hb dL_law_838 hl (by decide) rfl (fun ls hl => ?_)
  refine lv_aload_n hx hb dL_law_840 rfl (lv_at hl 4 rfl) ?_
  refine g_ViR (i := 22) (As := []) (rest := []) (kD_thrown hA h4) calD_thrown cvD_thrown mlL_89 hx hb hml hown hts hB hG hK hS (by decide) h4 rfl ⟨by decide, by decide⟩ rfl hl.1 rfl (Nat.le_of_ble_eq_true rfl) dL_law_841 ⟨by show cs + 1 + 0 + 0 ≤ 1087; omega, by show ss + 6 + 0 + 0 ≤ 9297; omega⟩ (fun H locs hG hS => ?_)
  refine lv_iload hx hb dL_law_844 (lv_at hl 1 rfl) ?_
  refine lv_icmp_eq (tgt := 851) hx hb dL_law_846 (by decide) (fun _ => ?_) (fun h9 => absurd h9 (by decide))
  refine lv_iload hx hb dL_law_851 (lv_at hl 1 rfl) ?_
  refine lv_if_ne (tgt := 868) hx hb dL_law_853 (by decide) (fun _ => ?_) (fun h9 => absurd h9 (by decide))
  refine lv_goto (tgt := 1235) hx hb dL_law_868 (by decide) ?_
  exact kk _ _ _ _  h9 ⟨h10, h11, h12⟩ h4 ⟨h5, h6⟩  hfr8 hG hS (lv_sub hl [2, 3, 4, 5, 6] rfl)

set_option maxRecDepth 100000 in
set_option maxHeartbeats 4000000 in
theorem st_flowRow_m {p : Program} {l : Launch} {e : Env} {s : State} {m : MethodId} {args : Array Value} {below : List Frame} {meth : Method} {c : Code} {Q : State → Prop} (hl9 : l.stackTraces = false) {D : va_G} {k : ClassId × ClassId × ClassId} {a : Nat → Nat} {B0 : Nat} {w : Nat → va_E} (hA : gA B0 a) (hx : p.tables.exec = Jvm.exec) (hb : c.code = cL_law) (hml : c.maxLocals = 8) (hown : s.vm.findClass RL = some m.cls) (hts : ∀ w ∈ TB, w.before args s = true) (hB : B0 ≤ s.heap.size) (hK : va_K D vwCl (gT k) s) (hXS : xS B0 s) {b Ls : Nat} {xs : Nat → Int32} (hX : va_X b Ls xs s s.heap) (hbl : b < s.heap.size) (hbA : ¬ gF B0 b) (hL9 : Ls ≤ 2048) {ii : Nat} (hi4 : ii + 4 ≤ Ls) {nf : Nat} {fo : Nat → Int32} {ff : Nat → Int32} {th : Int32} {n : Nat} {nr : Nat} {bw : Int32} {bd : Int32} {nt : Nat} {mo : Nat → Int32} {mf : Nat → Int32} (hsX : sX k a w ) (hsF : sF k a w nf fo ff) (hsD : sD k a w th n nr nf bw bd nt) (hsDF : sDF k a w mo mf) (q : Int32) (f : Int32) (h_1 : xs (ii + 1) = q) (h_2 : xs (ii + 2) = f) (hn : nf < 8) (h1 : opR q) (h2 : flR f) (hm : ¬ (nf = 0 ∨ (¬ q ≤ fo (nf - 1) ∧ ¬ f < ff (nf - 1)))) (hnD : nf < 8) (h1D : rngI q 0 10000) (h2D : rngI f 0 1000000) (hmD : ¬ (nf = 0 ∨ (¬ q ≤ mo (nf - 1) ∧ ¬ f < mf (nf - 1)))) {H : Heap} {locs : List Loc} {ls : Array Slot} (hG : gW D a w H) (hS : va_S (gF B0) s.heap H locs) (hl : lv_has ls 8 [(0, .ref b), (1, .ref (a 0)), (2, .ref (a 22)), (3, .ref (a 21)), (4, .int (nI ii))]) {cs ss : Nat} (hcs : cs + 1 ≤ 1087) (hss : ss + 6 ≤ 9297)
 (kk : ∀ (w' : Nat → va_E) (H' : Heap) (locs' : List Loc) (ls' : Array Slot) , sX k a w' → sF k a w' nf fo ff → sD k a w' 3 n nr nf bw bd nt → sDF k a w' mo mf → (∀ z, ((z < 32 ∨ 33 < z) ∧ z ≠ 22) → w' z = w z) → gW D a w' H' → va_S (gF B0) s.heap H' locs' → lv_has ls' 8 [(0, .ref b), (1, .ref (a 0)), (2, .ref (a 22)), (3, .ref (a 21)), (4, .int (nI ii))] → W p l e room_1 s m args below meth c H' locs' (cs + 1) (ss + 6) Q (F0 m 1235 ls' [])) : W p l e room_1 s m args below meth c H locs cs ss Q (F0 m 803 ls []) := by
  have hsX0 := hsX
  obtain ⟨hsF12, hsF13, hsF14⟩ := hsF
  have hsD22 := hsD
  obtain ⟨hsDF32, hsDF33⟩ := hsDF
  refine lv_aload_n hx hb dL_law_803 rfl (lv_at hl 1 rfl) ?_
  refine lv_aload_n hx hb dL_law_804 rfl (lv_at hl 0 rfl) ?_
  refine lv_iload hx hb dL_law_805 (lv_at hl 4 rfl) ?_
  refine lv_iconst (v := 1) hx hb dL_law_807 (by decide) ?_
  refine ln_iadd (x := ii) (y := 1) hx hb dL_law_808 ?_
  refine l_sld (v := q) hx hb hX hbl hbA hS (j := ii + 1) (by omega) (by omega) h_1 dL_law_809 ?_
  refine lv_aload_n hx hb dL_law_810 rfl (lv_at hl 0 rfl) ?_
  refine lv_iload hx hb dL_law_811 (lv_at hl 4 rfl) ?_
  refine lv_iconst (v := 2) hx hb dL_law_813 (by decide) ?_
  refine ln_iadd (x := ii) (y := 2) hx hb dL_law_814 ?_
  refine l_sld (v := f) hx hb hX hbl hbA hS (j := ii + 2) (by omega) (by omega) h_2 dL_law_815 ?_
  refine lv_aload_n hx hb dL_law_816 rfl (lv_at hl 3 rfl) ?_
  refine y_Si (As := [.ref (a 0), .int q, .int f, .ref (a 21)]) (rest := []) (kL_flowRow_m hl9 hA hsX0 ⟨hsF12, hsF13, hsF14⟩ q f hn h1 h2 hm) calL_flowRow mlL_128 hx hb hml hown hts hB hG hK hS hXS ⟨by decide, by decide⟩ rfl hl.1 rfl (Nat.le_of_ble_eq_true rfl) dL_law_817 ⟨by show cs + 1 ≤ 1087; omega, by show ss + 6 ≤ 9297; omega⟩ (fun H locs hG hS => ?_)
  refine lv_istore (lv' := [(5, .int 3), (0, .ref b), (1, .ref (a 0)), (2, .ref (a 22)), (3, .ref (a 21)), (4, .int (nI ii))]) hx hb dL_law_820 hl (by decide) rfl (fun ls hl => ?_)
  refine lv_aload_n hx hb dL_law_822 rfl (lv_at hl 3 rfl) ?_
  refine lv_aload_n hx hb dL_law_823 rfl (lv_at hl 1 rfl) ?_
  refine lv_iload hx hb dL_law_824 (lv_at hl 5 rfl) ?_
  refine lv_iconst (v := 1) hx hb dL_law_826 (by decide) ?_
  refine ln_iadd (x := ii) (y := 1) hx hb dL_law_827 ?_
  refine l_sld (v := q) hx hb hX hbl hbA hS (j := ii + 1) (by omega) (by omega) h_1 dL_law_828 ?_
  refine lv_aload_n hx hb dL_law_829 rfl (lv_at hl 1 rfl) ?_
  refine lv_iload hx hb dL_law_830 (lv_at hl 5 rfl) ?_
  refine lv_iconst (v := 2) hx hb dL_law_832 (by decide) ?_
  refine ln_iadd (x := ii) (y := 2) hx hb dL_law_833 ?_
  refine l_sld (v := f) hx hb hX hbl hbA hS (j := ii + 2) (by omega) (by omega) h_2 dL_law_834 ?_
  refine g_Vi (i := 22) (As := [.int q, .int f]) (rest := []) (kD_flowRow_m hA hsD22 ⟨hsDF32, hsDF33⟩ q f hnD h1D h2D hmD) calD_flowRow cvD_flowRow mlL_130 hx hb hml hown hts hB hG hK hS (by decide) hsD22 rfl ⟨by decide, by decide⟩ rfl hl.1 rfl (Nat.le_of_ble_eq_true rfl) dL_law_835 ⟨by show cs + 1 + 0 ≤ 1087; omega, by show ss + 6 + 0 ≤ 9297; omega⟩ (fun r1 w2 H locs hp3 hG hS => ?_)
  obtain ⟨er7, h4, ⟨h5, h6⟩, hfr8⟩ := hp3
  have h9 : w2 0 = .inr (0, [.ref (a 1), .ref (a 9), .ref (a 12), .ref (a 15)]) := (hfr8 0 (by omega)).trans hsX0
  have h10 : w2 12 = .inr (3, [.ref (a 13), .ref (a 14), .int (nI nf)]) := (hfr8 12 (by omega)).trans hsF12
  have h11 : w2 13 = .inl (k.1, 8, .inl fo) := (hfr8 13 (by omega)).trans hsF13
  have h12 : w2 14 = .inl (k.1, 8, .inl ff) := (hfr8 14 (by omega)).trans hsF14
  rw [er7]
  refine lv_istore (lv' := [(6, .int 0), (5, .int 3), (0, .ref b), (1, .ref (a 0)), (2, .ref (a 22)), (3, .ref (a 21)), (4, .int (nI ii))]) hx hb dL_law_838 hl (by decide) rfl (fun ls hl => ?_)
  refine lv_aload_n hx hb dL_law_840 rfl (lv_at hl 4 rfl) ?_
  refine g_ViR (i := 22) (As := []) (rest := []) (kD_thrown hA h4) calD_thrown cvD_thrown mlL_89 hx hb hml hown hts hB hG hK hS (by decide) h4 rfl ⟨by decide, by decide⟩ rfl hl.1 rfl (Nat.le_of_ble_eq_true rfl) dL_law_841 ⟨by show cs + 1 + 0 + 0 ≤ 1087; omega, by show ss + 6 + 0 + 0 ≤ 9297; omega⟩ (fun H locs hG hS => ?_)
  refine lv_iload hx hb dL_law_844 (lv_at hl 1 rfl) ?_
  refine lv_icmp_eq (tgt := 851) hx hb dL_law_846 (by decide) (fun _ => ?_) (fun h9 => absurd h9 (by decide))
  refine lv_iload hx hb dL_law_851 (lv_at hl 1 rfl) ?_
  refine lv_if_ne (tgt := 868) hx hb dL_law_853 (by decide) (fun _ => ?_) (fun h9 => absurd h9 (by decide))
  refine lv_goto (tgt := 1235) hx hb dL_law_868 (by decide) ?_
  exact kk _ _ _ _  h9 ⟨h10, h11, h12⟩ h4 ⟨h5, h6⟩  hfr8 hG hS (lv_sub hl [2, 3, 4, 5, 6] rfl)

set_option maxRecDepth 100000 in
set_option maxHeartbeats 4000000 in
theorem st_flow_k {p : Program} {l : Launch} {e : Env} {s : State} {m : MethodId} {args : Array Value} {below : List Frame} {meth : Method} {c : Code} {Q : State → Prop} (hl9 : l.stackTraces = false) {D : va_G} {k : ClassId × ClassId × ClassId} {a : Nat → Nat} {B0 : Nat} {w : Nat → va_E} (hA : gA B0 a) (hx : p.tables.exec = Jvm.exec) (hb : c.code = cL_law) (hml : c.maxLocals = 8) (hown : s.vm.findClass RL = some m.cls) (hts : ∀ w ∈ TB, w.before args s = true) (hB : B0 ≤ s.heap.size) (hK : va_K D vwCl (gT k) s) (hXS : xS B0 s) {b Ls : Nat} {xs : Nat → Int32} (hX : va_X b Ls xs s s.heap) (hbl : b < s.heap.size) (hbA : ¬ gF B0 b) (hL9 : Ls ≤ 2048) {ii : Nat} (hi4 : ii + 4 ≤ Ls) {nf : Nat} {fo : Nat → Int32} {ff : Nat → Int32} {oo : Nat → Int64} {th : Int32} {n : Nat} {nr : Nat} {bw : Int32} {bd : Int32} {nt : Nat} {mo : Nat → Int32} {mf : Nat → Int32} (hsX : sX k a w ) (hsF : sF k a w nf fo ff) (hsO : sO k a w oo) (hsD : sD k a w th n nr nf bw bd nt) (hsDF : sDF k a w mo mf) (q : Int32) (h_1 : xs (ii + 1) = q) (h0 : 0 < nf) (hn : nf ≤ 8) (h1 : opR q) (h0D : 0 < nf) (hnD : nf ≤ 8) (h1D : rngI q 0 10000) (hval : (flAt fo ff nf q).toInt64 = (mFl mo mf nf q).toInt64) {H : Heap} {locs : List Loc} {ls : Array Slot} (hG : gW D a w H) (hS : va_S (gF B0) s.heap H locs) (hl : lv_has ls 8 [(0, .ref b), (1, .ref (a 0)), (2, .ref (a 22)), (3, .ref (a 21)), (4, .int (nI ii))]) {cs ss : Nat} (hcs : cs + 1 ≤ 1087) (hss : ss + 6 ≤ 9297)
 (kk : ∀ (w' : Nat → va_E) (H' : Heap) (locs' : List Loc) (ls' : Array Slot) , sX k a w' → sF k a w' nf fo ff → sO k a w' (vp_updL oo 0 ((flAt fo ff nf q).toInt64)) → sD k a w' 0 n nr nf bw bd nt → sDF k a w' mo mf → (∀ z, (z < 21 ∨ 21 < z) ∧ ((z < 32 ∨ 33 < z) ∧ z ≠ 22) → w' z = w z) → gW D a w' H' → va_S (gF B0) s.heap H' locs' → lv_has ls' 8 [(0, .ref b), (1, .ref (a 0)), (2, .ref (a 22)), (3, .ref (a 21)), (4, .int (nI ii))] → W p l e room_1 s m args below meth c H' locs' (cs + 0) (ss + 0) Q (F0 m 1235 ls' [])) : W p l e room_1 s m args below meth c H locs cs ss Q (F0 m 871 ls []) := by
  have hsX0 := hsX
  obtain ⟨hsF12, hsF13, hsF14⟩ := hsF
  have hsO21 := hsO
  have hsD22 := hsD
  obtain ⟨hsDF32, hsDF33⟩ := hsDF
  refine lv_aload_n hx hb dL_law_871 rfl (lv_at hl 1 rfl) ?_
  refine lv_aload_n hx hb dL_law_872 rfl (lv_at hl 0 rfl) ?_
  refine lv_iload hx hb dL_law_873 (lv_at hl 4 rfl) ?_
  refine lv_iconst (v := 1) hx hb dL_law_875 (by decide) ?_
  refine ln_iadd (x := ii) (y := 1) hx hb dL_law_876 ?_
  refine l_sld (v := q) hx hb hX hbl hbA hS (j := ii + 1) (by omega) (by omega) h_1 dL_law_877 ?_
  refine lv_aload_n hx hb dL_law_878 rfl (lv_at hl 3 rfl) ?_
  refine h_Si (As := [.ref (a 0), .int q, .ref (a 21)]) (rest := []) (kL_flow_k hA hsX0 ⟨hsF12, hsF13, hsF14⟩ hsO21 q h0 hn h1) calL_flow mlL_131 hx hb hml hown hts hB hG hK hS ⟨by decide, by decide⟩ rfl hl.1 rfl (Nat.le_of_ble_eq_true rfl) dL_law_879 ⟨by show cs + 0 ≤ 1087; omega, by show ss + 0 ≤ 9297; omega⟩ (fun r1 w2 H locs hp3 hG hS => ?_)
  obtain ⟨er5, h4, hfr6⟩ := hp3
  have h7 : w2 0 = .inr (0, [.ref (a 1), .ref (a 9), .ref (a 12), .ref (a 15)]) := (hfr6 0 (by omega)).trans hsX0
  have h8 : w2 12 = .inr (3, [.ref (a 13), .ref (a 14), .int (nI nf)]) := (hfr6 12 (by omega)).trans hsF12
  have h9 : w2 13 = .inl (k.1, 8, .inl fo) := (hfr6 13 (by omega)).trans hsF13
  have h10 : w2 14 = .inl (k.1, 8, .inl ff) := (hfr6 14 (by omega)).trans hsF14
  have h11 : w2 22 = .inr (5, [.int th, .int (nI n), .ref (a 23), .ref (a 24), .ref (a 25), .ref (a 26), .ref (a 27), .ref (a 28), .ref (a 29), .int (nI nr), .ref (a 30), .ref (a 31), .int (nI nf), .ref (a 32), .ref (a 33), .int bw, .int bd, .int (nI nt), .ref (a 34), .ref (a 35), .ref (a 36), .ref (a 37)]) := (hfr6 22 (by omega)).trans hsD22
  have h12 : w2 32 = .inl (k.1, 8, .inl mo) := (hfr6 32 (by omega)).trans hsDF32
  have h13 : w2 33 = .inl (k.1, 8, .inl mf) := (hfr6 33 (by omega)).trans hsDF33
  rw [er5]
  refine lv_istore (lv' := [(5, .int 0), (0, .ref b), (1, .ref (a 0)), (2, .ref (a 22)), (3, .ref (a 21)), (4, .int (nI ii))]) hx hb dL_law_882 hl (by decide) rfl (fun ls hl => ?_)
  refine lv_aload_n hx hb dL_law_884 rfl (lv_at hl 3 rfl) ?_
  refine lv_aload_n hx hb dL_law_885 rfl (lv_at hl 1 rfl) ?_
  refine lv_iload hx hb dL_law_886 (lv_at hl 5 rfl) ?_
  refine lv_iconst (v := 1) hx hb dL_law_888 (by decide) ?_
  refine ln_iadd (x := ii) (y := 1) hx hb dL_law_889 ?_
  refine l_sld (v := q) hx hb hX hbl hbA hS (j := ii + 1) (by omega) (by omega) h_1 dL_law_890 ?_
  refine g_Vi (i := 22) (As := [.int q]) (rest := []) (kD_flow_k hA h11 ⟨h12, h13⟩ q h0D hnD h1D) calD_flow cvD_flow mlL_133 hx hb hml hown hts hB hG hK hS (by decide) h11 rfl ⟨by decide, by decide⟩ rfl hl.1 rfl (Nat.le_of_ble_eq_true rfl) dL_law_891 ⟨by show cs + 0 + 0 ≤ 1087; omega, by show ss + 0 + 0 ≤ 9297; omega⟩ (fun r14 w15 H locs hp16 hG hS => ?_)
  obtain ⟨er20, h17, ⟨h18, h19⟩, hfr21⟩ := hp16
  have h22 : w15 0 = .inr (0, [.ref (a 1), .ref (a 9), .ref (a 12), .ref (a 15)]) := (hfr21 0 (by omega)).trans h7
  have h23 : w15 12 = .inr (3, [.ref (a 13), .ref (a 14), .int (nI nf)]) := (hfr21 12 (by omega)).trans h8
  have h24 : w15 13 = .inl (k.1, 8, .inl fo) := (hfr21 13 (by omega)).trans h9
  have h25 : w15 14 = .inl (k.1, 8, .inl ff) := (hfr21 14 (by omega)).trans h10
  have h26 : w15 21 = .inl (k.2.1, 1, .inr (.inl (vp_updL oo 0 ((flAt fo ff nf q).toInt64)))) := (hfr21 21 (by omega)).trans h4
  rw [er20]
  refine lv_istore (lv' := [(6, .int (mFl mo mf nf q)), (5, .int 0), (0, .ref b), (1, .ref (a 0)), (2, .ref (a 22)), (3, .ref (a 21)), (4, .int (nI ii))]) hx hb dL_law_894 hl (by decide) rfl (fun ls hl => ?_)
  refine lv_aload_n hx hb dL_law_896 rfl (lv_at hl 4 rfl) ?_
  refine g_ViR (i := 22) (As := []) (rest := []) (kD_thrown hA h17) calD_thrown cvD_thrown mlL_89 hx hb hml hown hts hB hG hK hS (by decide) h17 rfl ⟨by decide, by decide⟩ rfl hl.1 rfl (Nat.le_of_ble_eq_true rfl) dL_law_897 ⟨by show cs + 0 + 0 + 0 ≤ 1087; omega, by show ss + 0 + 0 + 0 ≤ 9297; omega⟩ (fun H locs hG hS => ?_)
  refine lv_iload hx hb dL_law_900 (lv_at hl 1 rfl) ?_
  refine lv_icmp_eq (tgt := 907) hx hb dL_law_902 (by decide) (fun _ => ?_) (fun h9 => absurd h9 (by decide))
  refine lv_iload hx hb dL_law_907 (lv_at hl 1 rfl) ?_
  refine lv_if_ne (tgt := 924) hx hb dL_law_909 (by decide) (fun h9 => absurd h9 (by decide)) (fun _ => ?_)
  refine lv_aload_n hx hb dL_law_912 rfl (lv_at hl 5 rfl) ?_
  refine lv_iconst (v := 0) hx hb dL_law_913 (by decide) ?_
  refine g_lald hx hb hK hG 21 (by decide) h26 (j := 0) (by omega) (by decide) dL_law_914 ?_
  refine lv_iload hx hb dL_law_915 (lv_at hl 0 rfl) ?_
  refine lv_i2l hx hb dL_law_917 rfl ?_
  refine W.lcmp hx hb dL_law_918 ?_
  refine lc_if_eq (tgt := 924) hx hb dL_law_919 (by decide) (fun c29 => ?_) (fun c29 => (absurd (pk_uLs.trans hval) c29))
  refine lv_goto (tgt := 1235) hx hb dL_law_924 (by decide) ?_
  exact kk _ _ _ _  h22 ⟨h23, h24, h25⟩ h26 h17 ⟨h18, h19⟩  (fun z hz => (hfr21 z hz.2).trans (hfr6 z hz.1)) hG hS (lv_sub hl [2, 3, 4, 5, 6] rfl)

set_option maxRecDepth 100000 in
set_option maxHeartbeats 4000000 in
theorem st_flow_f {p : Program} {l : Launch} {e : Env} {s : State} {m : MethodId} {args : Array Value} {below : List Frame} {meth : Method} {c : Code} {Q : State → Prop} (hl9 : l.stackTraces = false) {D : va_G} {k : ClassId × ClassId × ClassId} {a : Nat → Nat} {B0 : Nat} {w : Nat → va_E} (hA : gA B0 a) (hx : p.tables.exec = Jvm.exec) (hb : c.code = cL_law) (hml : c.maxLocals = 8) (hown : s.vm.findClass RL = some m.cls) (hts : ∀ w ∈ TB, w.before args s = true) (hB : B0 ≤ s.heap.size) (hK : va_K D vwCl (gT k) s) (hXS : xS B0 s) {b Ls : Nat} {xs : Nat → Int32} (hX : va_X b Ls xs s s.heap) (hbl : b < s.heap.size) (hbA : ¬ gF B0 b) (hL9 : Ls ≤ 2048) {ii : Nat} (hi4 : ii + 4 ≤ Ls) {nf : Nat} {fo : Nat → Int32} {ff : Nat → Int32} {th : Int32} {n : Nat} {nr : Nat} {bw : Int32} {bd : Int32} {nt : Nat} {mo : Nat → Int32} {mf : Nat → Int32} (hsX : sX k a w ) (hsF : sF k a w nf fo ff) (hsD : sD k a w th n nr nf bw bd nt) (hsDF : sDF k a w mo mf) (q : Int32) (h_1 : xs (ii + 1) = q) (h0 : nf = 0) (h0D : nf = 0) {H : Heap} {locs : List Loc} {ls : Array Slot} (hG : gW D a w H) (hS : va_S (gF B0) s.heap H locs) (hl : lv_has ls 8 [(0, .ref b), (1, .ref (a 0)), (2, .ref (a 22)), (3, .ref (a 21)), (4, .int (nI ii))]) {cs ss : Nat} (hcs : cs + 1 ≤ 1087) (hss : ss + 6 ≤ 9297)
 (kk : ∀ (w' : Nat → va_E) (H' : Heap) (locs' : List Loc) (ls' : Array Slot) , sX k a w' → sF k a w' nf fo ff → sD k a w' 1 n nr nf bw bd nt → sDF k a w' mo mf → (∀ z, ((z < 32 ∨ 33 < z) ∧ z ≠ 22) → w' z = w z) → gW D a w' H' → va_S (gF B0) s.heap H' locs' → lv_has ls' 8 [(0, .ref b), (1, .ref (a 0)), (2, .ref (a 22)), (3, .ref (a 21)), (4, .int (nI ii))] → W p l e room_1 s m args below meth c H' locs' (cs + 1) (ss + 6) Q (F0 m 1235 ls' [])) : W p l e room_1 s m args below meth c H locs cs ss Q (F0 m 871 ls []) := by
  have hsX0 := hsX
  obtain ⟨hsF12, hsF13, hsF14⟩ := hsF
  have hsD22 := hsD
  obtain ⟨hsDF32, hsDF33⟩ := hsDF
  refine lv_aload_n hx hb dL_law_871 rfl (lv_at hl 1 rfl) ?_
  refine lv_aload_n hx hb dL_law_872 rfl (lv_at hl 0 rfl) ?_
  refine lv_iload hx hb dL_law_873 (lv_at hl 4 rfl) ?_
  refine lv_iconst (v := 1) hx hb dL_law_875 (by decide) ?_
  refine ln_iadd (x := ii) (y := 1) hx hb dL_law_876 ?_
  refine l_sld (v := q) hx hb hX hbl hbA hS (j := ii + 1) (by omega) (by omega) h_1 dL_law_877 ?_
  refine lv_aload_n hx hb dL_law_878 rfl (lv_at hl 3 rfl) ?_
  refine y_Si (As := [.ref (a 0), .int q, .ref (a 21)]) (rest := []) (kL_flow_f hl9 hA hsX0 ⟨hsF12, hsF13, hsF14⟩ q h0) calL_flow mlL_131 hx hb hml hown hts hB hG hK hS hXS ⟨by decide, by decide⟩ rfl hl.1 rfl (Nat.le_of_ble_eq_true rfl) dL_law_879 ⟨by show cs + 1 ≤ 1087; omega, by show ss + 6 ≤ 9297; omega⟩ (fun H locs hG hS => ?_)
  refine lv_istore (lv' := [(5, .int 1), (0, .ref b), (1, .ref (a 0)), (2, .ref (a 22)), (3, .ref (a 21)), (4, .int (nI ii))]) hx hb dL_law_882 hl (by decide) rfl (fun ls hl => ?_)
  refine lv_aload_n hx hb dL_law_884 rfl (lv_at hl 3 rfl) ?_
  refine lv_aload_n hx hb dL_law_885 rfl (lv_at hl 1 rfl) ?_
  refine lv_iload hx hb dL_law_886 (lv_at hl 5 rfl) ?_
  refine lv_iconst (v := 1) hx hb dL_law_888 (by decide) ?_
  refine ln_iadd (x := ii) (y := 1) hx hb dL_law_889 ?_
  refine l_sld (v := q) hx hb hX hbl hbA hS (j := ii + 1) (by omega) (by omega) h_1 dL_law_890 ?_
  refine g_Vi (i := 22) (As := [.int q]) (rest := []) (kD_flow_f hA hsD22 ⟨hsDF32, hsDF33⟩ q h0D) calD_flow cvD_flow mlL_133 hx hb hml hown hts hB hG hK hS (by decide) hsD22 rfl ⟨by decide, by decide⟩ rfl hl.1 rfl (Nat.le_of_ble_eq_true rfl) dL_law_891 ⟨by show cs + 1 + 0 ≤ 1087; omega, by show ss + 6 + 0 ≤ 9297; omega⟩ (fun r1 w2 H locs hp3 hG hS => ?_)
  obtain ⟨er7, h4, ⟨h5, h6⟩, hfr8⟩ := hp3
  have h9 : w2 0 = .inr (0, [.ref (a 1), .ref (a 9), .ref (a 12), .ref (a 15)]) := (hfr8 0 (by omega)).trans hsX0
  have h10 : w2 12 = .inr (3, [.ref (a 13), .ref (a 14), .int (nI nf)]) := (hfr8 12 (by omega)).trans hsF12
  have h11 : w2 13 = .inl (k.1, 8, .inl fo) := (hfr8 13 (by omega)).trans hsF13
  have h12 : w2 14 = .inl (k.1, 8, .inl ff) := (hfr8 14 (by omega)).trans hsF14
  rw [er7]
  refine lv_istore (lv' := [(6, .int 0), (5, .int 1), (0, .ref b), (1, .ref (a 0)), (2, .ref (a 22)), (3, .ref (a 21)), (4, .int (nI ii))]) hx hb dL_law_894 hl (by decide) rfl (fun ls hl => ?_)
  refine lv_aload_n hx hb dL_law_896 rfl (lv_at hl 4 rfl) ?_
  refine g_ViR (i := 22) (As := []) (rest := []) (kD_thrown hA h4) calD_thrown cvD_thrown mlL_89 hx hb hml hown hts hB hG hK hS (by decide) h4 rfl ⟨by decide, by decide⟩ rfl hl.1 rfl (Nat.le_of_ble_eq_true rfl) dL_law_897 ⟨by show cs + 1 + 0 + 0 ≤ 1087; omega, by show ss + 6 + 0 + 0 ≤ 9297; omega⟩ (fun H locs hG hS => ?_)
  refine lv_iload hx hb dL_law_900 (lv_at hl 1 rfl) ?_
  refine lv_icmp_eq (tgt := 907) hx hb dL_law_902 (by decide) (fun _ => ?_) (fun h9 => absurd h9 (by decide))
  refine lv_iload hx hb dL_law_907 (lv_at hl 1 rfl) ?_
  refine lv_if_ne (tgt := 924) hx hb dL_law_909 (by decide) (fun _ => ?_) (fun h9 => absurd h9 (by decide))
  refine lv_goto (tgt := 1235) hx hb dL_law_924 (by decide) ?_
  exact kk _ _ _ _  h9 ⟨h10, h11, h12⟩ h4 ⟨h5, h6⟩  hfr8 hG hS (lv_sub hl [2, 3, 4, 5, 6] rfl)

set_option maxRecDepth 100000 in
set_option maxHeartbeats 4000000 in
theorem st_flow_z {p : Program} {l : Launch} {e : Env} {s : State} {m : MethodId} {args : Array Value} {below : List Frame} {meth : Method} {c : Code} {Q : State → Prop} (hl9 : l.stackTraces = false) {D : va_G} {k : ClassId × ClassId × ClassId} {a : Nat → Nat} {B0 : Nat} {w : Nat → va_E} (hA : gA B0 a) (hx : p.tables.exec = Jvm.exec) (hb : c.code = cL_law) (hml : c.maxLocals = 8) (hown : s.vm.findClass RL = some m.cls) (hts : ∀ w ∈ TB, w.before args s = true) (hB : B0 ≤ s.heap.size) (hK : va_K D vwCl (gT k) s) (hXS : xS B0 s) {b Ls : Nat} {xs : Nat → Int32} (hX : va_X b Ls xs s s.heap) (hbl : b < s.heap.size) (hbA : ¬ gF B0 b) (hL9 : Ls ≤ 2048) {ii : Nat} (hi4 : ii + 4 ≤ Ls) {nf : Nat} {fo : Nat → Int32} {ff : Nat → Int32} {th : Int32} {n : Nat} {nr : Nat} {bw : Int32} {bd : Int32} {nt : Nat} {mo : Nat → Int32} {mf : Nat → Int32} (hsX : sX k a w ) (hsF : sF k a w nf fo ff) (hsD : sD k a w th n nr nf bw bd nt) (hsDF : sDF k a w mo mf) (q : Int32) (h_1 : xs (ii + 1) = q) (h0 : 0 < nf) (hn : nf ≤ 8) (h1 : ¬ opR q) (h0D : 0 < nf) (hnD : nf ≤ 8) (h1D : ¬ rngI q 0 10000) {H : Heap} {locs : List Loc} {ls : Array Slot} (hG : gW D a w H) (hS : va_S (gF B0) s.heap H locs) (hl : lv_has ls 8 [(0, .ref b), (1, .ref (a 0)), (2, .ref (a 22)), (3, .ref (a 21)), (4, .int (nI ii))]) {cs ss : Nat} (hcs : cs + 1 ≤ 1087) (hss : ss + 6 ≤ 9297)
 (kk : ∀ (w' : Nat → va_E) (H' : Heap) (locs' : List Loc) (ls' : Array Slot) , sX k a w' → sF k a w' nf fo ff → sD k a w' 2 n nr nf bw bd nt → sDF k a w' mo mf → (∀ z, ((z < 32 ∨ 33 < z) ∧ z ≠ 22) → w' z = w z) → gW D a w' H' → va_S (gF B0) s.heap H' locs' → lv_has ls' 8 [(0, .ref b), (1, .ref (a 0)), (2, .ref (a 22)), (3, .ref (a 21)), (4, .int (nI ii))] → W p l e room_1 s m args below meth c H' locs' (cs + 1) (ss + 6) Q (F0 m 1235 ls' [])) : W p l e room_1 s m args below meth c H locs cs ss Q (F0 m 871 ls []) := by
  have hsX0 := hsX
  obtain ⟨hsF12, hsF13, hsF14⟩ := hsF
  have hsD22 := hsD
  obtain ⟨hsDF32, hsDF33⟩ := hsDF
  refine lv_aload_n hx hb dL_law_871 rfl (lv_at hl 1 rfl) ?_
  refine lv_aload_n hx hb dL_law_872 rfl (lv_at hl 0 rfl) ?_
  refine lv_iload hx hb dL_law_873 (lv_at hl 4 rfl) ?_
  refine lv_iconst (v := 1) hx hb dL_law_875 (by decide) ?_
  refine ln_iadd (x := ii) (y := 1) hx hb dL_law_876 ?_
  refine l_sld (v := q) hx hb hX hbl hbA hS (j := ii + 1) (by omega) (by omega) h_1 dL_law_877 ?_
  refine lv_aload_n hx hb dL_law_878 rfl (lv_at hl 3 rfl) ?_
  refine y_Si (As := [.ref (a 0), .int q, .ref (a 21)]) (rest := []) (kL_flow_z hl9 hA hsX0 ⟨hsF12, hsF13, hsF14⟩ q h0 hn h1) calL_flow mlL_131 hx hb hml hown hts hB hG hK hS hXS ⟨by decide, by decide⟩ rfl hl.1 rfl (Nat.le_of_ble_eq_true rfl) dL_law_879 ⟨by show cs + 1 ≤ 1087; omega, by show ss + 6 ≤ 9297; omega⟩ (fun H locs hG hS => ?_)
  refine lv_istore (lv' := [(5, .int 2), (0, .ref b), (1, .ref (a 0)), (2, .ref (a 22)), (3, .ref (a 21)), (4, .int (nI ii))]) hx hb dL_law_882 hl (by decide) rfl (fun ls hl => ?_)
  refine lv_aload_n hx hb dL_law_884 rfl (lv_at hl 3 rfl) ?_
  refine lv_aload_n hx hb dL_law_885 rfl (lv_at hl 1 rfl) ?_
  refine lv_iload hx hb dL_law_886 (lv_at hl 5 rfl) ?_
  refine lv_iconst (v := 1) hx hb dL_law_888 (by decide) ?_
  refine ln_iadd (x := ii) (y := 1) hx hb dL_law_889 ?_
  refine l_sld (v := q) hx hb hX hbl hbA hS (j := ii + 1) (by omega) (by omega) h_1 dL_law_890 ?_
  refine g_Vi (i := 22) (As := [.int q]) (rest := []) (kD_flow_z hA hsD22 ⟨hsDF32, hsDF33⟩ q h0D hnD h1D) calD_flow cvD_flow mlL_133 hx hb hml hown hts hB hG hK hS (by decide) hsD22 rfl ⟨by decide, by decide⟩ rfl hl.1 rfl (Nat.le_of_ble_eq_true rfl) dL_law_891 ⟨by show cs + 1 + 0 ≤ 1087; omega, by show ss + 6 + 0 ≤ 9297; omega⟩ (fun r1 w2 H locs hp3 hG hS => ?_)
  obtain ⟨er7, h4, ⟨h5, h6⟩, hfr8⟩ := hp3
  have h9 : w2 0 = .inr (0, [.ref (a 1), .ref (a 9), .ref (a 12), .ref (a 15)]) := (hfr8 0 (by omega)).trans hsX0
  have h10 : w2 12 = .inr (3, [.ref (a 13), .ref (a 14), .int (nI nf)]) := (hfr8 12 (by omega)).trans hsF12
  have h11 : w2 13 = .inl (k.1, 8, .inl fo) := (hfr8 13 (by omega)).trans hsF13
  have h12 : w2 14 = .inl (k.1, 8, .inl ff) := (hfr8 14 (by omega)).trans hsF14
  rw [er7]
  refine lv_istore (lv' := [(6, .int 0), (5, .int 2), (0, .ref b), (1, .ref (a 0)), (2, .ref (a 22)), (3, .ref (a 21)), (4, .int (nI ii))]) hx hb dL_law_894 hl (by decide) rfl (fun ls hl => ?_)
  refine lv_aload_n hx hb dL_law_896 rfl (lv_at hl 4 rfl) ?_
  refine g_ViR (i := 22) (As := []) (rest := []) (kD_thrown hA h4) calD_thrown cvD_thrown mlL_89 hx hb hml hown hts hB hG hK hS (by decide) h4 rfl ⟨by decide, by decide⟩ rfl hl.1 rfl (Nat.le_of_ble_eq_true rfl) dL_law_897 ⟨by show cs + 1 + 0 + 0 ≤ 1087; omega, by show ss + 6 + 0 + 0 ≤ 9297; omega⟩ (fun H locs hG hS => ?_)
  refine lv_iload hx hb dL_law_900 (lv_at hl 1 rfl) ?_
  refine lv_icmp_eq (tgt := 907) hx hb dL_law_902 (by decide) (fun _ => ?_) (fun h9 => absurd h9 (by decide))
  refine lv_iload hx hb dL_law_907 (lv_at hl 1 rfl) ?_
  refine lv_if_ne (tgt := 924) hx hb dL_law_909 (by decide) (fun _ => ?_) (fun h9 => absurd h9 (by decide))
  refine lv_goto (tgt := 1235) hx hb dL_law_924 (by decide) ?_
  exact kk _ _ _ _  h9 ⟨h10, h11, h12⟩ h4 ⟨h5, h6⟩  hfr8 hG hS (lv_sub hl [2, 3, 4, 5, 6] rfl)

set_option maxRecDepth 100000 in
set_option maxHeartbeats 4000000 in
theorem st_gate_k {p : Program} {l : Launch} {e : Env} {s : State} {m : MethodId} {args : Array Value} {below : List Frame} {meth : Method} {c : Code} {Q : State → Prop} (hl9 : l.stackTraces = false) {D : va_G} {k : ClassId × ClassId × ClassId} {a : Nat → Nat} {B0 : Nat} {w : Nat → va_E} (hA : gA B0 a) (hx : p.tables.exec = Jvm.exec) (hb : c.code = cL_law) (hml : c.maxLocals = 8) (hown : s.vm.findClass RL = some m.cls) (hts : ∀ w ∈ TB, w.before args s = true) (hB : B0 ≤ s.heap.size) (hK : va_K D vwCl (gT k) s) (hXS : xS B0 s) {b Ls : Nat} {xs : Nat → Int32} (hX : va_X b Ls xs s s.heap) (hbl : b < s.heap.size) (hbA : ¬ gF B0 b) (hL9 : Ls ≤ 2048) {ii : Nat} (hi4 : ii + 4 ≤ Ls) {nf : Nat} {fo : Nat → Int32} {ff : Nat → Int32} {oo : Nat → Int64} {th : Int32} {n : Nat} {nr : Nat} {bw : Int32} {bd : Int32} {nt : Nat} {mo : Nat → Int32} {mf : Nat → Int32} (hsX : sX k a w ) (hsF : sF k a w nf fo ff) (hsO : sO k a w oo) (hsD : sD k a w th n nr nf bw bd nt) (hsDF : sDF k a w mo mf) (q : Int32) (h_1 : xs (ii + 1) = q) (h0 : 0 < nf) (hn : nf ≤ 8) (h1 : flR q) (hm : q ≤ flAt fo ff nf 10000) (h0D : 0 < nf) (hnD : nf ≤ 8) (h1D : rngI q 0 1000000) (hmD : q ≤ mFl mo mf nf 10000) (hval : (nI (gaF (flAt fo ff nf) q 100 0 10000)).toInt64 = (nI (gaF (mFl mo mf nf) q 100 0 10000)).toInt64) {H : Heap} {locs : List Loc} {ls : Array Slot} (hG : gW D a w H) (hS : va_S (gF B0) s.heap H locs) (hl : lv_has ls 8 [(0, .ref b), (1, .ref (a 0)), (2, .ref (a 22)), (3, .ref (a 21)), (4, .int (nI ii))]) {cs ss : Nat} (hcs : cs + 1 ≤ 1087) (hss : ss + 6 ≤ 9297)
 (kk : ∀ (w' : Nat → va_E) (H' : Heap) (locs' : List Loc) (ls' : Array Slot) , sX k a w' → sF k a w' nf fo ff → sO k a w' (vp_updL oo 0 ((nI (gaF (flAt fo ff nf) q 100 0 10000)).toInt64)) → sD k a w' 0 n nr nf bw bd nt → sDF k a w' mo mf → (∀ z, (z < 21 ∨ 21 < z) ∧ ((z < 32 ∨ 33 < z) ∧ z ≠ 22) → w' z = w z) → gW D a w' H' → va_S (gF B0) s.heap H' locs' → lv_has ls' 8 [(0, .ref b), (1, .ref (a 0)), (2, .ref (a 22)), (3, .ref (a 21)), (4, .int (nI ii))] → W p l e room_1 s m args below meth c H' locs' (cs + 0) (ss + 0) Q (F0 m 1235 ls' [])) : W p l e room_1 s m args below meth c H locs cs ss Q (F0 m 927 ls []) := by
  have hsX0 := hsX
  obtain ⟨hsF12, hsF13, hsF14⟩ := hsF
  have hsO21 := hsO
  have hsD22 := hsD
  obtain ⟨hsDF32, hsDF33⟩ := hsDF
  refine lv_aload_n hx hb dL_law_927 rfl (lv_at hl 1 rfl) ?_
  refine lv_aload_n hx hb dL_law_928 rfl (lv_at hl 0 rfl) ?_
  refine lv_iload hx hb dL_law_929 (lv_at hl 4 rfl) ?_
  refine lv_iconst (v := 1) hx hb dL_law_931 (by decide) ?_
  refine ln_iadd (x := ii) (y := 1) hx hb dL_law_932 ?_
  refine l_sld (v := q) hx hb hX hbl hbA hS (j := ii + 1) (by omega) (by omega) h_1 dL_law_933 ?_
  refine lv_aload_n hx hb dL_law_934 rfl (lv_at hl 3 rfl) ?_
  refine h_Si (As := [.ref (a 0), .int q, .ref (a 21)]) (rest := []) (kL_gate_k hA hsX0 ⟨hsF12, hsF13, hsF14⟩ hsO21 q h0 hn h1 hm) calL_gate mlL_134 hx hb hml hown hts hB hG hK hS ⟨by decide, by decide⟩ rfl hl.1 rfl (Nat.le_of_ble_eq_true rfl) dL_law_935 ⟨by show cs + 0 ≤ 1087; omega, by show ss + 0 ≤ 9297; omega⟩ (fun r1 w2 H locs hp3 hG hS => ?_)
  obtain ⟨er5, h4, hfr6⟩ := hp3
  have h7 : w2 0 = .inr (0, [.ref (a 1), .ref (a 9), .ref (a 12), .ref (a 15)]) := (hfr6 0 (by omega)).trans hsX0
  have h8 : w2 12 = .inr (3, [.ref (a 13), .ref (a 14), .int (nI nf)]) := (hfr6 12 (by omega)).trans hsF12
  have h9 : w2 13 = .inl (k.1, 8, .inl fo) := (hfr6 13 (by omega)).trans hsF13
  have h10 : w2 14 = .inl (k.1, 8, .inl ff) := (hfr6 14 (by omega)).trans hsF14
  have h11 : w2 22 = .inr (5, [.int th, .int (nI n), .ref (a 23), .ref (a 24), .ref (a 25), .ref (a 26), .ref (a 27), .ref (a 28), .ref (a 29), .int (nI nr), .ref (a 30), .ref (a 31), .int (nI nf), .ref (a 32), .ref (a 33), .int bw, .int bd, .int (nI nt), .ref (a 34), .ref (a 35), .ref (a 36), .ref (a 37)]) := (hfr6 22 (by omega)).trans hsD22
  have h12 : w2 32 = .inl (k.1, 8, .inl mo) := (hfr6 32 (by omega)).trans hsDF32
  have h13 : w2 33 = .inl (k.1, 8, .inl mf) := (hfr6 33 (by omega)).trans hsDF33
  rw [er5]
  refine lv_istore (lv' := [(5, .int 0), (0, .ref b), (1, .ref (a 0)), (2, .ref (a 22)), (3, .ref (a 21)), (4, .int (nI ii))]) hx hb dL_law_938 hl (by decide) rfl (fun ls hl => ?_)
  refine lv_aload_n hx hb dL_law_940 rfl (lv_at hl 3 rfl) ?_
  refine lv_aload_n hx hb dL_law_941 rfl (lv_at hl 1 rfl) ?_
  refine lv_iload hx hb dL_law_942 (lv_at hl 5 rfl) ?_
  refine lv_iconst (v := 1) hx hb dL_law_944 (by decide) ?_
  refine ln_iadd (x := ii) (y := 1) hx hb dL_law_945 ?_
  refine l_sld (v := q) hx hb hX hbl hbA hS (j := ii + 1) (by omega) (by omega) h_1 dL_law_946 ?_
  refine g_Vi (i := 22) (As := [.int q]) (rest := []) (kD_gate_k hA h11 ⟨h12, h13⟩ q h0D hnD h1D hmD) calD_gate cvD_gate mlL_136 hx hb hml hown hts hB hG hK hS (by decide) h11 rfl ⟨by decide, by decide⟩ rfl hl.1 rfl (Nat.le_of_ble_eq_true rfl) dL_law_947 ⟨by show cs + 0 + 0 ≤ 1087; omega, by show ss + 0 + 0 ≤ 9297; omega⟩ (fun r14 w15 H locs hp16 hG hS => ?_)
  obtain ⟨er20, h17, ⟨h18, h19⟩, hfr21⟩ := hp16
  have h22 : w15 0 = .inr (0, [.ref (a 1), .ref (a 9), .ref (a 12), .ref (a 15)]) := (hfr21 0 (by omega)).trans h7
  have h23 : w15 12 = .inr (3, [.ref (a 13), .ref (a 14), .int (nI nf)]) := (hfr21 12 (by omega)).trans h8
  have h24 : w15 13 = .inl (k.1, 8, .inl fo) := (hfr21 13 (by omega)).trans h9
  have h25 : w15 14 = .inl (k.1, 8, .inl ff) := (hfr21 14 (by omega)).trans h10
  have h26 : w15 21 = .inl (k.2.1, 1, .inr (.inl (vp_updL oo 0 ((nI (gaF (flAt fo ff nf) q 100 0 10000)).toInt64)))) := (hfr21 21 (by omega)).trans h4
  rw [er20]
  refine lv_istore (lv' := [(6, .int (nI (gaF (mFl mo mf nf) q 100 0 10000))), (5, .int 0), (0, .ref b), (1, .ref (a 0)), (2, .ref (a 22)), (3, .ref (a 21)), (4, .int (nI ii))]) hx hb dL_law_950 hl (by decide) rfl (fun ls hl => ?_)
  refine lv_aload_n hx hb dL_law_952 rfl (lv_at hl 4 rfl) ?_
  refine g_ViR (i := 22) (As := []) (rest := []) (kD_thrown hA h17) calD_thrown cvD_thrown mlL_89 hx hb hml hown hts hB hG hK hS (by decide) h17 rfl ⟨by decide, by decide⟩ rfl hl.1 rfl (Nat.le_of_ble_eq_true rfl) dL_law_953 ⟨by show cs + 0 + 0 + 0 ≤ 1087; omega, by show ss + 0 + 0 + 0 ≤ 9297; omega⟩ (fun H locs hG hS => ?_)
  refine lv_iload hx hb dL_law_956 (lv_at hl 1 rfl) ?_
  refine lv_icmp_eq (tgt := 963) hx hb dL_law_958 (by decide) (fun _ => ?_) (fun h9 => absurd h9 (by decide))
  refine lv_iload hx hb dL_law_963 (lv_at hl 1 rfl) ?_
  refine lv_if_ne (tgt := 980) hx hb dL_law_965 (by decide) (fun h9 => absurd h9 (by decide)) (fun _ => ?_)
  refine lv_aload_n hx hb dL_law_968 rfl (lv_at hl 5 rfl) ?_
  refine lv_iconst (v := 0) hx hb dL_law_969 (by decide) ?_
  refine g_lald hx hb hK hG 21 (by decide) h26 (j := 0) (by omega) (by decide) dL_law_970 ?_
  refine lv_iload hx hb dL_law_971 (lv_at hl 0 rfl) ?_
  refine lv_i2l hx hb dL_law_973 rfl ?_
  refine W.lcmp hx hb dL_law_974 ?_
  refine lc_if_eq (tgt := 980) hx hb dL_law_975 (by decide) (fun c29 => ?_) (fun c29 => (absurd (pk_uLs.trans hval) c29))
  refine lv_goto (tgt := 1235) hx hb dL_law_980 (by decide) ?_
  exact kk _ _ _ _  h22 ⟨h23, h24, h25⟩ h26 h17 ⟨h18, h19⟩  (fun z hz => (hfr21 z hz.2).trans (hfr6 z hz.1)) hG hS (lv_sub hl [2, 3, 4, 5, 6] rfl)

set_option maxRecDepth 100000 in
set_option maxHeartbeats 4000000 in
theorem st_gate_f {p : Program} {l : Launch} {e : Env} {s : State} {m : MethodId} {args : Array Value} {below : List Frame} {meth : Method} {c : Code} {Q : State → Prop} (hl9 : l.stackTraces = false) {D : va_G} {k : ClassId × ClassId × ClassId} {a : Nat → Nat} {B0 : Nat} {w : Nat → va_E} (hA : gA B0 a) (hx : p.tables.exec = Jvm.exec) (hb : c.code = cL_law) (hml : c.maxLocals = 8) (hown : s.vm.findClass RL = some m.cls) (hts : ∀ w ∈ TB, w.before args s = true) (hB : B0 ≤ s.heap.size) (hK : va_K D vwCl (gT k) s) (hXS : xS B0 s) {b Ls : Nat} {xs : Nat → Int32} (hX : va_X b Ls xs s s.heap) (hbl : b < s.heap.size) (hbA : ¬ gF B0 b) (hL9 : Ls ≤ 2048) {ii : Nat} (hi4 : ii + 4 ≤ Ls) {nf : Nat} {fo : Nat → Int32} {ff : Nat → Int32} {th : Int32} {n : Nat} {nr : Nat} {bw : Int32} {bd : Int32} {nt : Nat} {mo : Nat → Int32} {mf : Nat → Int32} (hsX : sX k a w ) (hsF : sF k a w nf fo ff) (hsD : sD k a w th n nr nf bw bd nt) (hsDF : sDF k a w mo mf) (q : Int32) (h_1 : xs (ii + 1) = q) (h0 : nf = 0) (h0D : nf = 0) {H : Heap} {locs : List Loc} {ls : Array Slot} (hG : gW D a w H) (hS : va_S (gF B0) s.heap H locs) (hl : lv_has ls 8 [(0, .ref b), (1, .ref (a 0)), (2, .ref (a 22)), (3, .ref (a 21)), (4, .int (nI ii))]) {cs ss : Nat} (hcs : cs + 1 ≤ 1087) (hss : ss + 6 ≤ 9297)
 (kk : ∀ (w' : Nat → va_E) (H' : Heap) (locs' : List Loc) (ls' : Array Slot) , sX k a w' → sF k a w' nf fo ff → sD k a w' 1 n nr nf bw bd nt → sDF k a w' mo mf → (∀ z, ((z < 32 ∨ 33 < z) ∧ z ≠ 22) → w' z = w z) → gW D a w' H' → va_S (gF B0) s.heap H' locs' → lv_has ls' 8 [(0, .ref b), (1, .ref (a 0)), (2, .ref (a 22)), (3, .ref (a 21)), (4, .int (nI ii))] → W p l e room_1 s m args below meth c H' locs' (cs + 1) (ss + 6) Q (F0 m 1235 ls' [])) : W p l e room_1 s m args below meth c H locs cs ss Q (F0 m 927 ls []) := by
  have hsX0 := hsX
  obtain ⟨hsF12, hsF13, hsF14⟩ := hsF
  have hsD22 := hsD
  obtain ⟨hsDF32, hsDF33⟩ := hsDF
  refine lv_aload_n hx hb dL_law_927 rfl (lv_at hl 1 rfl) ?_
  refine lv_aload_n hx hb dL_law_928 rfl (lv_at hl 0 rfl) ?_
  refine lv_iload hx hb dL_law_929 (lv_at hl 4 rfl) ?_
  refine lv_iconst (v := 1) hx hb dL_law_931 (by decide) ?_
  refine ln_iadd (x := ii) (y := 1) hx hb dL_law_932 ?_
  refine l_sld (v := q) hx hb hX hbl hbA hS (j := ii + 1) (by omega) (by omega) h_1 dL_law_933 ?_
  refine lv_aload_n hx hb dL_law_934 rfl (lv_at hl 3 rfl) ?_
  refine y_Si (As := [.ref (a 0), .int q, .ref (a 21)]) (rest := []) (kL_gate_f hl9 hA hsX0 ⟨hsF12, hsF13, hsF14⟩ q h0) calL_gate mlL_134 hx hb hml hown hts hB hG hK hS hXS ⟨by decide, by decide⟩ rfl hl.1 rfl (Nat.le_of_ble_eq_true rfl) dL_law_935 ⟨by show cs + 1 ≤ 1087; omega, by show ss + 6 ≤ 9297; omega⟩ (fun H locs hG hS => ?_)
  refine lv_istore (lv' := [(5, .int 1), (0, .ref b), (1, .ref (a 0)), (2, .ref (a 22)), (3, .ref (a 21)), (4, .int (nI ii))]) hx hb dL_law_938 hl (by decide) rfl (fun ls hl => ?_)
  refine lv_aload_n hx hb dL_law_940 rfl (lv_at hl 3 rfl) ?_
  refine lv_aload_n hx hb dL_law_941 rfl (lv_at hl 1 rfl) ?_
  refine lv_iload hx hb dL_law_942 (lv_at hl 5 rfl) ?_
  refine lv_iconst (v := 1) hx hb dL_law_944 (by decide) ?_
  refine ln_iadd (x := ii) (y := 1) hx hb dL_law_945 ?_
  refine l_sld (v := q) hx hb hX hbl hbA hS (j := ii + 1) (by omega) (by omega) h_1 dL_law_946 ?_
  refine g_Vi (i := 22) (As := [.int q]) (rest := []) (kD_gate_f hA hsD22 ⟨hsDF32, hsDF33⟩ q h0D) calD_gate cvD_gate mlL_136 hx hb hml hown hts hB hG hK hS (by decide) hsD22 rfl ⟨by decide, by decide⟩ rfl hl.1 rfl (Nat.le_of_ble_eq_true rfl) dL_law_947 ⟨by show cs + 1 + 0 ≤ 1087; omega, by show ss + 6 + 0 ≤ 9297; omega⟩ (fun r1 w2 H locs hp3 hG hS => ?_)
  obtain ⟨er7, h4, ⟨h5, h6⟩, hfr8⟩ := hp3
  have h9 : w2 0 = .inr (0, [.ref (a 1), .ref (a 9), .ref (a 12), .ref (a 15)]) := (hfr8 0 (by omega)).trans hsX0
  have h10 : w2 12 = .inr (3, [.ref (a 13), .ref (a 14), .int (nI nf)]) := (hfr8 12 (by omega)).trans hsF12
  have h11 : w2 13 = .inl (k.1, 8, .inl fo) := (hfr8 13 (by omega)).trans hsF13
  have h12 : w2 14 = .inl (k.1, 8, .inl ff) := (hfr8 14 (by omega)).trans hsF14
  rw [er7]
  refine lv_istore (lv' := [(6, .int 0), (5, .int 1), (0, .ref b), (1, .ref (a 0)), (2, .ref (a 22)), (3, .ref (a 21)), (4, .int (nI ii))]) hx hb dL_law_950 hl (by decide) rfl (fun ls hl => ?_)
  refine lv_aload_n hx hb dL_law_952 rfl (lv_at hl 4 rfl) ?_
  refine g_ViR (i := 22) (As := []) (rest := []) (kD_thrown hA h4) calD_thrown cvD_thrown mlL_89 hx hb hml hown hts hB hG hK hS (by decide) h4 rfl ⟨by decide, by decide⟩ rfl hl.1 rfl (Nat.le_of_ble_eq_true rfl) dL_law_953 ⟨by show cs + 1 + 0 + 0 ≤ 1087; omega, by show ss + 6 + 0 + 0 ≤ 9297; omega⟩ (fun H locs hG hS => ?_)
  refine lv_iload hx hb dL_law_956 (lv_at hl 1 rfl) ?_
  refine lv_icmp_eq (tgt := 963) hx hb dL_law_958 (by decide) (fun _ => ?_) (fun h9 => absurd h9 (by decide))
  refine lv_iload hx hb dL_law_963 (lv_at hl 1 rfl) ?_
  refine lv_if_ne (tgt := 980) hx hb dL_law_965 (by decide) (fun _ => ?_) (fun h9 => absurd h9 (by decide))
  refine lv_goto (tgt := 1235) hx hb dL_law_980 (by decide) ?_
  exact kk _ _ _ _  h9 ⟨h10, h11, h12⟩ h4 ⟨h5, h6⟩  hfr8 hG hS (lv_sub hl [2, 3, 4, 5, 6] rfl)

set_option maxRecDepth 100000 in
set_option maxHeartbeats 4000000 in
theorem st_gate_z {p : Program} {l : Launch} {e : Env} {s : State} {m : MethodId} {args : Array Value} {below : List Frame} {meth : Method} {c : Code} {Q : State → Prop} (hl9 : l.stackTraces = false) {D : va_G} {k : ClassId × ClassId × ClassId} {a : Nat → Nat} {B0 : Nat} {w : Nat → va_E} (hA : gA B0 a) (hx : p.tables.exec = Jvm.exec) (hb : c.code = cL_law) (hml : c.maxLocals = 8) (hown : s.vm.findClass RL = some m.cls) (hts : ∀ w ∈ TB, w.before args s = true) (hB : B0 ≤ s.heap.size) (hK : va_K D vwCl (gT k) s) (hXS : xS B0 s) {b Ls : Nat} {xs : Nat → Int32} (hX : va_X b Ls xs s s.heap) (hbl : b < s.heap.size) (hbA : ¬ gF B0 b) (hL9 : Ls ≤ 2048) {ii : Nat} (hi4 : ii + 4 ≤ Ls) {nf : Nat} {fo : Nat → Int32} {ff : Nat → Int32} {th : Int32} {n : Nat} {nr : Nat} {bw : Int32} {bd : Int32} {nt : Nat} {mo : Nat → Int32} {mf : Nat → Int32} (hsX : sX k a w ) (hsF : sF k a w nf fo ff) (hsD : sD k a w th n nr nf bw bd nt) (hsDF : sDF k a w mo mf) (q : Int32) (h_1 : xs (ii + 1) = q) (h0 : 0 < nf) (hn : nf ≤ 8) (h1 : ¬ flR q) (h0D : 0 < nf) (hnD : nf ≤ 8) (h1D : ¬ rngI q 0 1000000) {H : Heap} {locs : List Loc} {ls : Array Slot} (hG : gW D a w H) (hS : va_S (gF B0) s.heap H locs) (hl : lv_has ls 8 [(0, .ref b), (1, .ref (a 0)), (2, .ref (a 22)), (3, .ref (a 21)), (4, .int (nI ii))]) {cs ss : Nat} (hcs : cs + 1 ≤ 1087) (hss : ss + 6 ≤ 9297)
 (kk : ∀ (w' : Nat → va_E) (H' : Heap) (locs' : List Loc) (ls' : Array Slot) , sX k a w' → sF k a w' nf fo ff → sD k a w' 2 n nr nf bw bd nt → sDF k a w' mo mf → (∀ z, ((z < 32 ∨ 33 < z) ∧ z ≠ 22) → w' z = w z) → gW D a w' H' → va_S (gF B0) s.heap H' locs' → lv_has ls' 8 [(0, .ref b), (1, .ref (a 0)), (2, .ref (a 22)), (3, .ref (a 21)), (4, .int (nI ii))] → W p l e room_1 s m args below meth c H' locs' (cs + 1) (ss + 6) Q (F0 m 1235 ls' [])) : W p l e room_1 s m args below meth c H locs cs ss Q (F0 m 927 ls []) := by
  have hsX0 := hsX
  obtain ⟨hsF12, hsF13, hsF14⟩ := hsF
  have hsD22 := hsD
  obtain ⟨hsDF32, hsDF33⟩ := hsDF
  refine lv_aload_n hx hb dL_law_927 rfl (lv_at hl 1 rfl) ?_
  refine lv_aload_n hx hb dL_law_928 rfl (lv_at hl 0 rfl) ?_
  refine lv_iload hx hb dL_law_929 (lv_at hl 4 rfl) ?_
  refine lv_iconst (v := 1) hx hb dL_law_931 (by decide) ?_
  refine ln_iadd (x := ii) (y := 1) hx hb dL_law_932 ?_
  refine l_sld (v := q) hx hb hX hbl hbA hS (j := ii + 1) (by omega) (by omega) h_1 dL_law_933 ?_
  refine lv_aload_n hx hb dL_law_934 rfl (lv_at hl 3 rfl) ?_
  refine y_Si (As := [.ref (a 0), .int q, .ref (a 21)]) (rest := []) (kL_gate_z hl9 hA hsX0 ⟨hsF12, hsF13, hsF14⟩ q h0 hn h1) calL_gate mlL_134 hx hb hml hown hts hB hG hK hS hXS ⟨by decide, by decide⟩ rfl hl.1 rfl (Nat.le_of_ble_eq_true rfl) dL_law_935 ⟨by show cs + 1 ≤ 1087; omega, by show ss + 6 ≤ 9297; omega⟩ (fun H locs hG hS => ?_)
  refine lv_istore (lv' := [(5, .int 2), (0, .ref b), (1, .ref (a 0)), (2, .ref (a 22)), (3, .ref (a 21)), (4, .int (nI ii))]) hx hb dL_law_938 hl (by decide) rfl (fun ls hl => ?_)
  refine lv_aload_n hx hb dL_law_940 rfl (lv_at hl 3 rfl) ?_
  refine lv_aload_n hx hb dL_law_941 rfl (lv_at hl 1 rfl) ?_
  refine lv_iload hx hb dL_law_942 (lv_at hl 5 rfl) ?_
  refine lv_iconst (v := 1) hx hb dL_law_944 (by decide) ?_
  refine ln_iadd (x := ii) (y := 1) hx hb dL_law_945 ?_
  refine l_sld (v := q) hx hb hX hbl hbA hS (j := ii + 1) (by omega) (by omega) h_1 dL_law_946 ?_
  refine g_Vi (i := 22) (As := [.int q]) (rest := []) (kD_gate_z hA hsD22 ⟨hsDF32, hsDF33⟩ q h0D hnD h1D) calD_gate cvD_gate mlL_136 hx hb hml hown hts hB hG hK hS (by decide) hsD22 rfl ⟨by decide, by decide⟩ rfl hl.1 rfl (Nat.le_of_ble_eq_true rfl) dL_law_947 ⟨by show cs + 1 + 0 ≤ 1087; omega, by show ss + 6 + 0 ≤ 9297; omega⟩ (fun r1 w2 H locs hp3 hG hS => ?_)
  obtain ⟨er7, h4, ⟨h5, h6⟩, hfr8⟩ := hp3
  have h9 : w2 0 = .inr (0, [.ref (a 1), .ref (a 9), .ref (a 12), .ref (a 15)]) := (hfr8 0 (by omega)).trans hsX0
  have h10 : w2 12 = .inr (3, [.ref (a 13), .ref (a 14), .int (nI nf)]) := (hfr8 12 (by omega)).trans hsF12
  have h11 : w2 13 = .inl (k.1, 8, .inl fo) := (hfr8 13 (by omega)).trans hsF13
  have h12 : w2 14 = .inl (k.1, 8, .inl ff) := (hfr8 14 (by omega)).trans hsF14
  rw [er7]
  refine lv_istore (lv' := [(6, .int 0), (5, .int 2), (0, .ref b), (1, .ref (a 0)), (2, .ref (a 22)), (3, .ref (a 21)), (4, .int (nI ii))]) hx hb dL_law_950 hl (by decide) rfl (fun ls hl => ?_)
  refine lv_aload_n hx hb dL_law_952 rfl (lv_at hl 4 rfl) ?_
  refine g_ViR (i := 22) (As := []) (rest := []) (kD_thrown hA h4) calD_thrown cvD_thrown mlL_89 hx hb hml hown hts hB hG hK hS (by decide) h4 rfl ⟨by decide, by decide⟩ rfl hl.1 rfl (Nat.le_of_ble_eq_true rfl) dL_law_953 ⟨by show cs + 1 + 0 + 0 ≤ 1087; omega, by show ss + 6 + 0 + 0 ≤ 9297; omega⟩ (fun H locs hG hS => ?_)
  refine lv_iload hx hb dL_law_956 (lv_at hl 1 rfl) ?_
  refine lv_icmp_eq (tgt := 963) hx hb dL_law_958 (by decide) (fun _ => ?_) (fun h9 => absurd h9 (by decide))
  refine lv_iload hx hb dL_law_963 (lv_at hl 1 rfl) ?_
  refine lv_if_ne (tgt := 980) hx hb dL_law_965 (by decide) (fun _ => ?_) (fun h9 => absurd h9 (by decide))
  refine lv_goto (tgt := 1235) hx hb dL_law_980 (by decide) ?_
  exact kk _ _ _ _  h9 ⟨h10, h11, h12⟩ h4 ⟨h5, h6⟩  hfr8 hG hS (lv_sub hl [2, 3, 4, 5, 6] rfl)

set_option maxRecDepth 100000 in
set_option maxHeartbeats 4000000 in
theorem st_gate_m {p : Program} {l : Launch} {e : Env} {s : State} {m : MethodId} {args : Array Value} {below : List Frame} {meth : Method} {c : Code} {Q : State → Prop} (hl9 : l.stackTraces = false) {D : va_G} {k : ClassId × ClassId × ClassId} {a : Nat → Nat} {B0 : Nat} {w : Nat → va_E} (hA : gA B0 a) (hx : p.tables.exec = Jvm.exec) (hb : c.code = cL_law) (hml : c.maxLocals = 8) (hown : s.vm.findClass RL = some m.cls) (hts : ∀ w ∈ TB, w.before args s = true) (hB : B0 ≤ s.heap.size) (hK : va_K D vwCl (gT k) s) (hXS : xS B0 s) {b Ls : Nat} {xs : Nat → Int32} (hX : va_X b Ls xs s s.heap) (hbl : b < s.heap.size) (hbA : ¬ gF B0 b) (hL9 : Ls ≤ 2048) {ii : Nat} (hi4 : ii + 4 ≤ Ls) {nf : Nat} {fo : Nat → Int32} {ff : Nat → Int32} {th : Int32} {n : Nat} {nr : Nat} {bw : Int32} {bd : Int32} {nt : Nat} {mo : Nat → Int32} {mf : Nat → Int32} (hsX : sX k a w ) (hsF : sF k a w nf fo ff) (hsD : sD k a w th n nr nf bw bd nt) (hsDF : sDF k a w mo mf) (q : Int32) (h_1 : xs (ii + 1) = q) (h0 : 0 < nf) (hn : nf ≤ 8) (h1 : flR q) (hm : ¬ q ≤ flAt fo ff nf 10000) (h0D : 0 < nf) (hnD : nf ≤ 8) (h1D : rngI q 0 1000000) (hmD : ¬ q ≤ mFl mo mf nf 10000) {H : Heap} {locs : List Loc} {ls : Array Slot} (hG : gW D a w H) (hS : va_S (gF B0) s.heap H locs) (hl : lv_has ls 8 [(0, .ref b), (1, .ref (a 0)), (2, .ref (a 22)), (3, .ref (a 21)), (4, .int (nI ii))]) {cs ss : Nat} (hcs : cs + 1 ≤ 1087) (hss : ss + 6 ≤ 9297)
 (kk : ∀ (w' : Nat → va_E) (H' : Heap) (locs' : List Loc) (ls' : Array Slot) , sX k a w' → sF k a w' nf fo ff → sD k a w' 3 n nr nf bw bd nt → sDF k a w' mo mf → (∀ z, ((z < 32 ∨ 33 < z) ∧ z ≠ 22) → w' z = w z) → gW D a w' H' → va_S (gF B0) s.heap H' locs' → lv_has ls' 8 [(0, .ref b), (1, .ref (a 0)), (2, .ref (a 22)), (3, .ref (a 21)), (4, .int (nI ii))] → W p l e room_1 s m args below meth c H' locs' (cs + 1) (ss + 6) Q (F0 m 1235 ls' [])) : W p l e room_1 s m args below meth c H locs cs ss Q (F0 m 927 ls []) := by
  have hsX0 := hsX
  obtain ⟨hsF12, hsF13, hsF14⟩ := hsF
  have hsD22 := hsD
  obtain ⟨hsDF32, hsDF33⟩ := hsDF
  refine lv_aload_n hx hb dL_law_927 rfl (lv_at hl 1 rfl) ?_
  refine lv_aload_n hx hb dL_law_928 rfl (lv_at hl 0 rfl) ?_
  refine lv_iload hx hb dL_law_929 (lv_at hl 4 rfl) ?_
  refine lv_iconst (v := 1) hx hb dL_law_931 (by decide) ?_
  refine ln_iadd (x := ii) (y := 1) hx hb dL_law_932 ?_
  refine l_sld (v := q) hx hb hX hbl hbA hS (j := ii + 1) (by omega) (by omega) h_1 dL_law_933 ?_
  refine lv_aload_n hx hb dL_law_934 rfl (lv_at hl 3 rfl) ?_
  refine y_Si (As := [.ref (a 0), .int q, .ref (a 21)]) (rest := []) (kL_gate_m hl9 hA hsX0 ⟨hsF12, hsF13, hsF14⟩ q h0 hn h1 hm) calL_gate mlL_134 hx hb hml hown hts hB hG hK hS hXS ⟨by decide, by decide⟩ rfl hl.1 rfl (Nat.le_of_ble_eq_true rfl) dL_law_935 ⟨by show cs + 1 ≤ 1087; omega, by show ss + 6 ≤ 9297; omega⟩ (fun H locs hG hS => ?_)
  refine lv_istore (lv' := [(5, .int 3), (0, .ref b), (1, .ref (a 0)), (2, .ref (a 22)), (3, .ref (a 21)), (4, .int (nI ii))]) hx hb dL_law_938 hl (by decide) rfl (fun ls hl => ?_)
  refine lv_aload_n hx hb dL_law_940 rfl (lv_at hl 3 rfl) ?_
  refine lv_aload_n hx hb dL_law_941 rfl (lv_at hl 1 rfl) ?_
  refine lv_iload hx hb dL_law_942 (lv_at hl 5 rfl) ?_
  refine lv_iconst (v := 1) hx hb dL_law_944 (by decide) ?_
  refine ln_iadd (x := ii) (y := 1) hx hb dL_law_945 ?_
  refine l_sld (v := q) hx hb hX hbl hbA hS (j := ii + 1) (by omega) (by omega) h_1 dL_law_946 ?_
  refine g_Vi (i := 22) (As := [.int q]) (rest := []) (kD_gate_m hA hsD22 ⟨hsDF32, hsDF33⟩ q h0D hnD h1D hmD) calD_gate cvD_gate mlL_136 hx hb hml hown hts hB hG hK hS (by decide) hsD22 rfl ⟨by decide, by decide⟩ rfl hl.1 rfl (Nat.le_of_ble_eq_true rfl) dL_law_947 ⟨by show cs + 1 + 0 ≤ 1087; omega, by show ss + 6 + 0 ≤ 9297; omega⟩ (fun r1 w2 H locs hp3 hG hS => ?_)
  obtain ⟨er7, h4, ⟨h5, h6⟩, hfr8⟩ := hp3
  have h9 : w2 0 = .inr (0, [.ref (a 1), .ref (a 9), .ref (a 12), .ref (a 15)]) := (hfr8 0 (by omega)).trans hsX0
  have h10 : w2 12 = .inr (3, [.ref (a 13), .ref (a 14), .int (nI nf)]) := (hfr8 12 (by omega)).trans hsF12
  have h11 : w2 13 = .inl (k.1, 8, .inl fo) := (hfr8 13 (by omega)).trans hsF13
  have h12 : w2 14 = .inl (k.1, 8, .inl ff) := (hfr8 14 (by omega)).trans hsF14
  rw [er7]
  refine lv_istore (lv' := [(6, .int 0), (5, .int 3), (0, .ref b), (1, .ref (a 0)), (2, .ref (a 22)), (3, .ref (a 21)), (4, .int (nI ii))]) hx hb dL_law_950 hl (by decide) rfl (fun ls hl => ?_)
  refine lv_aload_n hx hb dL_law_952 rfl (lv_at hl 4 rfl) ?_
  refine g_ViR (i := 22) (As := []) (rest := []) (kD_thrown hA h4) calD_thrown cvD_thrown mlL_89 hx hb hml hown hts hB hG hK hS (by decide) h4 rfl ⟨by decide, by decide⟩ rfl hl.1 rfl (Nat.le_of_ble_eq_true rfl) dL_law_953 ⟨by show cs + 1 + 0 + 0 ≤ 1087; omega, by show ss + 6 + 0 + 0 ≤ 9297; omega⟩ (fun H locs hG hS => ?_)
  refine lv_iload hx hb dL_law_956 (lv_at hl 1 rfl) ?_
  refine lv_icmp_eq (tgt := 963) hx hb dL_law_958 (by decide) (fun _ => ?_) (fun h9 => absurd h9 (by decide))
  refine lv_iload hx hb dL_law_963 (lv_at hl 1 rfl) ?_
  refine lv_if_ne (tgt := 980) hx hb dL_law_965 (by decide) (fun _ => ?_) (fun h9 => absurd h9 (by decide))
  refine lv_goto (tgt := 1235) hx hb dL_law_980 (by decide) ?_
  exact kk _ _ _ _  h9 ⟨h10, h11, h12⟩ h4 ⟨h5, h6⟩  hfr8 hG hS (lv_sub hl [2, 3, 4, 5, 6] rfl)

set_option maxRecDepth 100000 in
set_option maxHeartbeats 4000000 in
theorem st_pattern_k {p : Program} {l : Launch} {e : Env} {s : State} {m : MethodId} {args : Array Value} {below : List Frame} {meth : Method} {c : Code} {Q : State → Prop} (hl9 : l.stackTraces = false) {D : va_G} {k : ClassId × ClassId × ClassId} {a : Nat → Nat} {B0 : Nat} {w : Nat → va_E} (hA : gA B0 a) (hx : p.tables.exec = Jvm.exec) (hb : c.code = cL_law) (hml : c.maxLocals = 8) (hown : s.vm.findClass RL = some m.cls) (hts : ∀ w ∈ TB, w.before args s = true) (hB : B0 ≤ s.heap.size) (hK : va_K D vwCl (gT k) s) (hXS : xS B0 s) {b Ls : Nat} {xs : Nat → Int32} (hX : va_X b Ls xs s s.heap) (hbl : b < s.heap.size) (hbA : ¬ gF B0 b) (hL9 : Ls ≤ 2048) {ii : Nat} (hi4 : ii + 4 ≤ Ls) {oo : Nat → Int64} {th : Int32} {n : Nat} {nr : Nat} {nf : Nat} {bw : Int32} {bd : Int32} {nt : Nat} (hsX : sX k a w ) (hsO : sO k a w oo) (hsD : sD k a w th n nr nf bw bd nt) (x : Int32) (y : Int32) (h_1 : xs (ii + 1) = x) (h_2 : xs (ii + 2) = y) (h1 : szR x) (h2 : rngI y 0 100) (h1D : szR x) (h2D : rngI y 0 100) (hval : ((x * (1000 + y) + 999) / 1000).toInt64 = ((x * (1000 + y) + 999) / 1000).toInt64) {H : Heap} {locs : List Loc} {ls : Array Slot} (hG : gW D a w H) (hS : va_S (gF B0) s.heap H locs) (hl : lv_has ls 8 [(0, .ref b), (1, .ref (a 0)), (2, .ref (a 22)), (3, .ref (a 21)), (4, .int (nI ii))]) {cs ss : Nat} (hcs : cs + 1 ≤ 1087) (hss : ss + 6 ≤ 9297)
 (kk : ∀ (w' : Nat → va_E) (H' : Heap) (locs' : List Loc) (ls' : Array Slot) , sX k a w' → sO k a w' (vp_updL oo 0 (((x * (1000 + y) + 999) / 1000).toInt64)) → sD k a w' 0 n nr nf bw bd nt → (∀ z, (z < 21 ∨ 21 < z) ∧ (z < 22 ∨ 22 < z) → w' z = w z) → gW D a w' H' → va_S (gF B0) s.heap H' locs' → lv_has ls' 8 [(0, .ref b), (1, .ref (a 0)), (2, .ref (a 22)), (3, .ref (a 21)), (4, .int (nI ii))] → W p l e room_1 s m args below meth c H' locs' (cs + 0) (ss + 0) Q (F0 m 1235 ls' [])) : W p l e room_1 s m args below meth c H locs cs ss Q (F0 m 983 ls []) := by
  have hsX0 := hsX
  have hsO21 := hsO
  have hsD22 := hsD
  refine lv_aload_n hx hb dL_law_983 rfl (lv_at hl 1 rfl) ?_
  refine lv_aload_n hx hb dL_law_984 rfl (lv_at hl 0 rfl) ?_
  refine lv_iload hx hb dL_law_985 (lv_at hl 4 rfl) ?_
  refine lv_iconst (v := 1) hx hb dL_law_987 (by decide) ?_
  refine ln_iadd (x := ii) (y := 1) hx hb dL_law_988 ?_
  refine l_sld (v := x) hx hb hX hbl hbA hS (j := ii + 1) (by omega) (by omega) h_1 dL_law_989 ?_
  refine lv_aload_n hx hb dL_law_990 rfl (lv_at hl 0 rfl) ?_
  refine lv_iload hx hb dL_law_991 (lv_at hl 4 rfl) ?_
  refine lv_iconst (v := 2) hx hb dL_law_993 (by decide) ?_
  refine ln_iadd (x := ii) (y := 2) hx hb dL_law_994 ?_
  refine l_sld (v := y) hx hb hX hbl hbA hS (j := ii + 2) (by omega) (by omega) h_2 dL_law_995 ?_
  refine lv_aload_n hx hb dL_law_996 rfl (lv_at hl 3 rfl) ?_
  refine h_Si (As := [.ref (a 0), .int x, .int y, .ref (a 21)]) (rest := []) (kL_pattern_k hA hsX0 hsO21 x y h1 h2) calL_pattern mlL_137 hx hb hml hown hts hB hG hK hS ⟨by decide, by decide⟩ rfl hl.1 rfl (Nat.le_of_ble_eq_true rfl) dL_law_997 ⟨by show cs + 0 ≤ 1087; omega, by show ss + 0 ≤ 9297; omega⟩ (fun r1 w2 H locs hp3 hG hS => ?_)
  obtain ⟨er5, h4, hfr6⟩ := hp3
  have h7 : w2 0 = .inr (0, [.ref (a 1), .ref (a 9), .ref (a 12), .ref (a 15)]) := (hfr6 0 (by omega)).trans hsX0
  have h8 : w2 22 = .inr (5, [.int th, .int (nI n), .ref (a 23), .ref (a 24), .ref (a 25), .ref (a 26), .ref (a 27), .ref (a 28), .ref (a 29), .int (nI nr), .ref (a 30), .ref (a 31), .int (nI nf), .ref (a 32), .ref (a 33), .int bw, .int bd, .int (nI nt), .ref (a 34), .ref (a 35), .ref (a 36), .ref (a 37)]) := (hfr6 22 (by omega)).trans hsD22
  rw [er5]
  refine lv_istore (lv' := [(5, .int 0), (0, .ref b), (1, .ref (a 0)), (2, .ref (a 22)), (3, .ref (a 21)), (4, .int (nI ii))]) hx hb dL_law_1000 hl (by decide) rfl (fun ls hl => ?_)
  refine lv_aload_n hx hb dL_law_1002 rfl (lv_at hl 3 rfl) ?_
  refine lv_aload_n hx hb dL_law_1003 rfl (lv_at hl 1 rfl) ?_
  refine lv_iload hx hb dL_law_1004 (lv_at hl 5 rfl) ?_
  refine lv_iconst (v := 1) hx hb dL_law_1006 (by decide) ?_
  refine ln_iadd (x := ii) (y := 1) hx hb dL_law_1007 ?_
  refine l_sld (v := x) hx hb hX hbl hbA hS (j := ii + 1) (by omega) (by omega) h_1 dL_law_1008 ?_
  refine lv_aload_n hx hb dL_law_1009 rfl (lv_at hl 1 rfl) ?_
  refine lv_iload hx hb dL_law_1010 (lv_at hl 5 rfl) ?_
  refine lv_iconst (v := 2) hx hb dL_law_1012 (by decide) ?_
  refine ln_iadd (x := ii) (y := 2) hx hb dL_law_1013 ?_
  refine l_sld (v := y) hx hb hX hbl hbA hS (j := ii + 2) (by omega) (by omega) h_2 dL_law_1014 ?_
  refine g_Vi (i := 22) (As := [.int x, .int y]) (rest := []) (kD_pattern_k hA h8 x y h1D h2D) calD_pattern cvD_pattern mlL_139 hx hb hml hown hts hB hG hK hS (by decide) h8 rfl ⟨by decide, by decide⟩ rfl hl.1 rfl (Nat.le_of_ble_eq_true rfl) dL_law_1015 ⟨by show cs + 0 + 0 ≤ 1087; omega, by show ss + 0 + 0 ≤ 9297; omega⟩ (fun r9 w10 H locs hp11 hG hS => ?_)
  obtain ⟨er13, h12, hfr14⟩ := hp11
  have h15 : w10 0 = .inr (0, [.ref (a 1), .ref (a 9), .ref (a 12), .ref (a 15)]) := (hfr14 0 (by omega)).trans h7
  have h16 : w10 21 = .inl (k.2.1, 1, .inr (.inl (vp_updL oo 0 (((x * (1000 + y) + 999) / 1000).toInt64)))) := (hfr14 21 (by omega)).trans h4
  rw [er13]
  refine lv_istore (lv' := [(6, .int ((x * (1000 + y) + 999) / 1000)), (5, .int 0), (0, .ref b), (1, .ref (a 0)), (2, .ref (a 22)), (3, .ref (a 21)), (4, .int (nI ii))]) hx hb dL_law_1018 hl (by decide) rfl (fun ls hl => ?_)
  refine lv_aload_n hx hb dL_law_1020 rfl (lv_at hl 4 rfl) ?_
  refine g_ViR (i := 22) (As := []) (rest := []) (kD_thrown hA h12) calD_thrown cvD_thrown mlL_89 hx hb hml hown hts hB hG hK hS (by decide) h12 rfl ⟨by decide, by decide⟩ rfl hl.1 rfl (Nat.le_of_ble_eq_true rfl) dL_law_1021 ⟨by show cs + 0 + 0 + 0 ≤ 1087; omega, by show ss + 0 + 0 + 0 ≤ 9297; omega⟩ (fun H locs hG hS => ?_)
  refine lv_iload hx hb dL_law_1024 (lv_at hl 1 rfl) ?_
  refine lv_icmp_eq (tgt := 1031) hx hb dL_law_1026 (by decide) (fun _ => ?_) (fun h9 => absurd h9 (by decide))
  refine lv_iload hx hb dL_law_1031 (lv_at hl 1 rfl) ?_
  refine lv_if_ne (tgt := 1048) hx hb dL_law_1033 (by decide) (fun h9 => absurd h9 (by decide)) (fun _ => ?_)
  refine lv_aload_n hx hb dL_law_1036 rfl (lv_at hl 5 rfl) ?_
  refine lv_iconst (v := 0) hx hb dL_law_1037 (by decide) ?_
  refine g_lald hx hb hK hG 21 (by decide) h16 (j := 0) (by omega) (by decide) dL_law_1038 ?_
  refine lv_iload hx hb dL_law_1039 (lv_at hl 0 rfl) ?_
  refine lv_i2l hx hb dL_law_1041 rfl ?_
  refine W.lcmp hx hb dL_law_1042 ?_
  refine lc_if_eq (tgt := 1048) hx hb dL_law_1043 (by decide) (fun c19 => ?_) (fun c19 => (absurd (pk_uLs.trans hval) c19))
  refine lv_goto (tgt := 1235) hx hb dL_law_1048 (by decide) ?_
  exact kk _ _ _ _  h15 h16 h12  (fun z hz => (hfr14 z hz.2).trans (hfr6 z hz.1)) hG hS (lv_sub hl [2, 3, 4, 5, 6] rfl)

set_option maxRecDepth 100000 in
set_option maxHeartbeats 4000000 in
theorem st_pattern_z {p : Program} {l : Launch} {e : Env} {s : State} {m : MethodId} {args : Array Value} {below : List Frame} {meth : Method} {c : Code} {Q : State → Prop} (hl9 : l.stackTraces = false) {D : va_G} {k : ClassId × ClassId × ClassId} {a : Nat → Nat} {B0 : Nat} {w : Nat → va_E} (hA : gA B0 a) (hx : p.tables.exec = Jvm.exec) (hb : c.code = cL_law) (hml : c.maxLocals = 8) (hown : s.vm.findClass RL = some m.cls) (hts : ∀ w ∈ TB, w.before args s = true) (hB : B0 ≤ s.heap.size) (hK : va_K D vwCl (gT k) s) (hXS : xS B0 s) {b Ls : Nat} {xs : Nat → Int32} (hX : va_X b Ls xs s s.heap) (hbl : b < s.heap.size) (hbA : ¬ gF B0 b) (hL9 : Ls ≤ 2048) {ii : Nat} (hi4 : ii + 4 ≤ Ls) {th : Int32} {n : Nat} {nr : Nat} {nf : Nat} {bw : Int32} {bd : Int32} {nt : Nat} (hsX : sX k a w ) (hsD : sD k a w th n nr nf bw bd nt) (x : Int32) (y : Int32) (h_1 : xs (ii + 1) = x) (h_2 : xs (ii + 2) = y) (hz : ¬ (szR x ∧ rngI y 0 100)) (hzD : ¬ (szR x ∧ rngI y 0 100)) {H : Heap} {locs : List Loc} {ls : Array Slot} (hG : gW D a w H) (hS : va_S (gF B0) s.heap H locs) (hl : lv_has ls 8 [(0, .ref b), (1, .ref (a 0)), (2, .ref (a 22)), (3, .ref (a 21)), (4, .int (nI ii))]) {cs ss : Nat} (hcs : cs + 1 ≤ 1087) (hss : ss + 6 ≤ 9297)
 (kk : ∀ (w' : Nat → va_E) (H' : Heap) (locs' : List Loc) (ls' : Array Slot) , sX k a w' → sD k a w' 1 n nr nf bw bd nt → (∀ z, (z < 22 ∨ 22 < z) → w' z = w z) → gW D a w' H' → va_S (gF B0) s.heap H' locs' → lv_has ls' 8 [(0, .ref b), (1, .ref (a 0)), (2, .ref (a 22)), (3, .ref (a 21)), (4, .int (nI ii))] → W p l e room_1 s m args below meth c H' locs' (cs + 1) (ss + 6) Q (F0 m 1235 ls' [])) : W p l e room_1 s m args below meth c H locs cs ss Q (F0 m 983 ls []) := by
  have hsX0 := hsX
  have hsD22 := hsD
  refine lv_aload_n hx hb dL_law_983 rfl (lv_at hl 1 rfl) ?_
  refine lv_aload_n hx hb dL_law_984 rfl (lv_at hl 0 rfl) ?_
  refine lv_iload hx hb dL_law_985 (lv_at hl 4 rfl) ?_
  refine lv_iconst (v := 1) hx hb dL_law_987 (by decide) ?_
  refine ln_iadd (x := ii) (y := 1) hx hb dL_law_988 ?_
  refine l_sld (v := x) hx hb hX hbl hbA hS (j := ii + 1) (by omega) (by omega) h_1 dL_law_989 ?_
  refine lv_aload_n hx hb dL_law_990 rfl (lv_at hl 0 rfl) ?_
  refine lv_iload hx hb dL_law_991 (lv_at hl 4 rfl) ?_
  refine lv_iconst (v := 2) hx hb dL_law_993 (by decide) ?_
  refine ln_iadd (x := ii) (y := 2) hx hb dL_law_994 ?_
  refine l_sld (v := y) hx hb hX hbl hbA hS (j := ii + 2) (by omega) (by omega) h_2 dL_law_995 ?_
  refine lv_aload_n hx hb dL_law_996 rfl (lv_at hl 3 rfl) ?_
  refine y_Si (As := [.ref (a 0), .int x, .int y, .ref (a 21)]) (rest := []) (kL_pattern_z hl9 hA hsX0 x y hz) calL_pattern mlL_137 hx hb hml hown hts hB hG hK hS hXS ⟨by decide, by decide⟩ rfl hl.1 rfl (Nat.le_of_ble_eq_true rfl) dL_law_997 ⟨by show cs + 1 ≤ 1087; omega, by show ss + 6 ≤ 9297; omega⟩ (fun H locs hG hS => ?_)
  refine lv_istore (lv' := [(5, .int 1), (0, .ref b), (1, .ref (a 0)), (2, .ref (a 22)), (3, .ref (a 21)), (4, .int (nI ii))]) hx hb dL_law_1000 hl (by decide) rfl (fun ls hl => ?_)
  refine lv_aload_n hx hb dL_law_1002 rfl (lv_at hl 3 rfl) ?_
  refine lv_aload_n hx hb dL_law_1003 rfl (lv_at hl 1 rfl) ?_
  refine lv_iload hx hb dL_law_1004 (lv_at hl 5 rfl) ?_
  refine lv_iconst (v := 1) hx hb dL_law_1006 (by decide) ?_
  refine ln_iadd (x := ii) (y := 1) hx hb dL_law_1007 ?_
  refine l_sld (v := x) hx hb hX hbl hbA hS (j := ii + 1) (by omega) (by omega) h_1 dL_law_1008 ?_
  refine lv_aload_n hx hb dL_law_1009 rfl (lv_at hl 1 rfl) ?_
  refine lv_iload hx hb dL_law_1010 (lv_at hl 5 rfl) ?_
  refine lv_iconst (v := 2) hx hb dL_law_1012 (by decide) ?_
  refine ln_iadd (x := ii) (y := 2) hx hb dL_law_1013 ?_
  refine l_sld (v := y) hx hb hX hbl hbA hS (j := ii + 2) (by omega) (by omega) h_2 dL_law_1014 ?_
  refine g_Vi (i := 22) (As := [.int x, .int y]) (rest := []) (kD_pattern_z hA hsD22 x y hzD) calD_pattern cvD_pattern mlL_139 hx hb hml hown hts hB hG hK hS (by decide) hsD22 rfl ⟨by decide, by decide⟩ rfl hl.1 rfl (Nat.le_of_ble_eq_true rfl) dL_law_1015 ⟨by show cs + 1 + 0 ≤ 1087; omega, by show ss + 6 + 0 ≤ 9297; omega⟩ (fun r1 w2 H locs hp3 hG hS => ?_)
  obtain ⟨er5, h4, hfr6⟩ := hp3
  have h7 : w2 0 = .inr (0, [.ref (a 1), .ref (a 9), .ref (a 12), .ref (a 15)]) := (hfr6 0 (by omega)).trans hsX0
  rw [er5]
  refine lv_istore (lv' := [(6, .int 0), (5, .int 1), (0, .ref b), (1, .ref (a 0)), (2, .ref (a 22)), (3, .ref (a 21)), (4, .int (nI ii))]) hx hb dL_law_1018 hl (by decide) rfl (fun ls hl => ?_)
  refine lv_aload_n hx hb dL_law_1020 rfl (lv_at hl 4 rfl) ?_
  refine g_ViR (i := 22) (As := []) (rest := []) (kD_thrown hA h4) calD_thrown cvD_thrown mlL_89 hx hb hml hown hts hB hG hK hS (by decide) h4 rfl ⟨by decide, by decide⟩ rfl hl.1 rfl (Nat.le_of_ble_eq_true rfl) dL_law_1021 ⟨by show cs + 1 + 0 + 0 ≤ 1087; omega, by show ss + 6 + 0 + 0 ≤ 9297; omega⟩ (fun H locs hG hS => ?_)
  refine lv_iload hx hb dL_law_1024 (lv_at hl 1 rfl) ?_
  refine lv_icmp_eq (tgt := 1031) hx hb dL_law_1026 (by decide) (fun _ => ?_) (fun h9 => absurd h9 (by decide))
  refine lv_iload hx hb dL_law_1031 (lv_at hl 1 rfl) ?_
  refine lv_if_ne (tgt := 1048) hx hb dL_law_1033 (by decide) (fun _ => ?_) (fun h9 => absurd h9 (by decide))
  refine lv_goto (tgt := 1235) hx hb dL_law_1048 (by decide) ?_
  exact kk _ _ _ _  h7 h4  hfr6 hG hS (lv_sub hl [2, 3, 4, 5, 6] rfl)

set_option maxRecDepth 100000 in
set_option maxHeartbeats 4000000 in
theorem st_molding_k {p : Program} {l : Launch} {e : Env} {s : State} {m : MethodId} {args : Array Value} {below : List Frame} {meth : Method} {c : Code} {Q : State → Prop} (hl9 : l.stackTraces = false) {D : va_G} {k : ClassId × ClassId × ClassId} {a : Nat → Nat} {B0 : Nat} {w : Nat → va_E} (hA : gA B0 a) (hx : p.tables.exec = Jvm.exec) (hb : c.code = cL_law) (hml : c.maxLocals = 8) (hown : s.vm.findClass RL = some m.cls) (hts : ∀ w ∈ TB, w.before args s = true) (hB : B0 ≤ s.heap.size) (hK : va_K D vwCl (gT k) s) (hXS : xS B0 s) {b Ls : Nat} {xs : Nat → Int32} (hX : va_X b Ls xs s s.heap) (hbl : b < s.heap.size) (hbA : ¬ gF B0 b) (hL9 : Ls ≤ 2048) {ii : Nat} (hi4 : ii + 4 ≤ Ls) {bw : Int32} {bd : Int32} {bu : Int32} {nt : Nat} {ns : Nat} {tw : Nat → Int32} {td : Nat → Int32} {sb : Nat → Int32} {sd : Nat → Int32} {su : Nat → Int32} {th : Int32} {n : Nat} {nr : Nat} {nf : Nat} (hsX : sX k a w ) (hsM : sM k a w bw bd bu nt ns tw td sb sd su) (hsD : sD k a w th n nr nf bw bd nt) (x : Int32) (y : Int32) (h_1 : xs (ii + 1) = x) (h_2 : xs (ii + 2) = y) (h1 : wdR x) (h2 : wdR y) (h1D : wdR x) (h2D : wdR y) {H : Heap} {locs : List Loc} {ls : Array Slot} (hG : gW D a w H) (hS : va_S (gF B0) s.heap H locs) (hl : lv_has ls 8 [(0, .ref b), (1, .ref (a 0)), (2, .ref (a 22)), (3, .ref (a 21)), (4, .int (nI ii))]) {cs ss : Nat} (hcs : cs + 1 ≤ 1087) (hss : ss + 6 ≤ 9297)
 (kk : ∀ (w' : Nat → va_E) (H' : Heap) (locs' : List Loc) (ls' : Array Slot) , sX k a w' → sM k a w' x y 0 0 0 tw td sb sd su → sD k a w' 0 n nr nf x y 0 → (∀ z, (z < 15 ∨ 20 < z) ∧ (z < 22 ∨ 22 < z) → w' z = w z) → gW D a w' H' → va_S (gF B0) s.heap H' locs' → lv_has ls' 8 [(0, .ref b), (1, .ref (a 0)), (2, .ref (a 22)), (3, .ref (a 21)), (4, .int (nI ii))] → W p l e room_1 s m args below meth c H' locs' (cs + 0) (ss + 0) Q (F0 m 1235 ls' [])) : W p l e room_1 s m args below meth c H locs cs ss Q (F0 m 1051 ls []) := by
  have hsX0 := hsX
  obtain ⟨hsM15, hsM16, hsM17, hsM18, hsM19, hsM20⟩ := hsM
  have hsD22 := hsD
  refine lv_aload_n hx hb dL_law_1051 rfl (lv_at hl 1 rfl) ?_
  refine lv_aload_n hx hb dL_law_1052 rfl (lv_at hl 0 rfl) ?_
  refine lv_iload hx hb dL_law_1053 (lv_at hl 4 rfl) ?_
  refine lv_iconst (v := 1) hx hb dL_law_1055 (by decide) ?_
  refine ln_iadd (x := ii) (y := 1) hx hb dL_law_1056 ?_
  refine l_sld (v := x) hx hb hX hbl hbA hS (j := ii + 1) (by omega) (by omega) h_1 dL_law_1057 ?_
  refine lv_aload_n hx hb dL_law_1058 rfl (lv_at hl 0 rfl) ?_
  refine lv_iload hx hb dL_law_1059 (lv_at hl 4 rfl) ?_
  refine lv_iconst (v := 2) hx hb dL_law_1061 (by decide) ?_
  refine ln_iadd (x := ii) (y := 2) hx hb dL_law_1062 ?_
  refine l_sld (v := y) hx hb hX hbl hbA hS (j := ii + 2) (by omega) (by omega) h_2 dL_law_1063 ?_
  refine h_Si (As := [.ref (a 0), .int x, .int y]) (rest := []) (kL_molding_k hA hsX0 ⟨hsM15, hsM16, hsM17, hsM18, hsM19, hsM20⟩ x y h1 h2) calL_molding mlL_140 hx hb hml hown hts hB hG hK hS ⟨by decide, by decide⟩ rfl hl.1 rfl (Nat.le_of_ble_eq_true rfl) dL_law_1064 ⟨by show cs + 0 ≤ 1087; omega, by show ss + 0 ≤ 9297; omega⟩ (fun r1 w2 H locs hp3 hG hS => ?_)
  obtain ⟨er10, ⟨h4, h5, h6, h7, h8, h9⟩, hfr11⟩ := hp3
  have h12 : w2 0 = .inr (0, [.ref (a 1), .ref (a 9), .ref (a 12), .ref (a 15)]) := (hfr11 0 (by omega)).trans hsX0
  have h13 : w2 22 = .inr (5, [.int th, .int (nI n), .ref (a 23), .ref (a 24), .ref (a 25), .ref (a 26), .ref (a 27), .ref (a 28), .ref (a 29), .int (nI nr), .ref (a 30), .ref (a 31), .int (nI nf), .ref (a 32), .ref (a 33), .int bw, .int bd, .int (nI nt), .ref (a 34), .ref (a 35), .ref (a 36), .ref (a 37)]) := (hfr11 22 (by omega)).trans hsD22
  rw [er10]
  refine lv_istore (lv' := [(5, .int 0), (0, .ref b), (1, .ref (a 0)), (2, .ref (a 22)), (3, .ref (a 21)), (4, .int (nI ii))]) hx hb dL_law_1067 hl (by decide) rfl (fun ls hl => ?_)
  refine lv_aload_n hx hb dL_law_1069 rfl (lv_at hl 3 rfl) ?_
  refine lv_aload_n hx hb dL_law_1070 rfl (lv_at hl 1 rfl) ?_
  refine lv_iload hx hb dL_law_1071 (lv_at hl 5 rfl) ?_
  refine lv_iconst (v := 1) hx hb dL_law_1073 (by decide) ?_
  refine ln_iadd (x := ii) (y := 1) hx hb dL_law_1074 ?_
  refine l_sld (v := x) hx hb hX hbl hbA hS (j := ii + 1) (by omega) (by omega) h_1 dL_law_1075 ?_
  refine lv_aload_n hx hb dL_law_1076 rfl (lv_at hl 1 rfl) ?_
  refine lv_iload hx hb dL_law_1077 (lv_at hl 5 rfl) ?_
  refine lv_iconst (v := 2) hx hb dL_law_1079 (by decide) ?_
  refine ln_iadd (x := ii) (y := 2) hx hb dL_law_1080 ?_
  refine l_sld (v := y) hx hb hX hbl hbA hS (j := ii + 2) (by omega) (by omega) h_2 dL_law_1081 ?_
  refine g_Vv (i := 22) (As := [.int x, .int y]) (rest := []) (kD_molding_k hA h13 x y h1D h2D) calD_molding cvD_molding mlL_143 hx hb hml hown hts hB hG hK hS (by decide) h13 rfl ⟨by decide, by decide⟩ rfl hl.1 rfl (Nat.le_of_ble_eq_true rfl) dL_law_1082 ⟨by show cs + 0 + 0 ≤ 1087; omega, by show ss + 0 + 0 ≤ 9297; omega⟩ (fun w15 H locs hp16 hG hS => ?_)
  obtain ⟨h17, hfr19⟩ := hp16
  have h20 : w15 0 = .inr (0, [.ref (a 1), .ref (a 9), .ref (a 12), .ref (a 15)]) := (hfr19 0 (by omega)).trans h12
  have h21 : w15 15 = .inr (4, [.ref (a 16), .ref (a 17), .ref (a 18), .ref (a 19), .ref (a 20), .int x, .int y, .int 0, .int (nI 0), .int (nI 0)]) := (hfr19 15 (by omega)).trans h4
  have h22 : w15 16 = .inl (k.1, 40, .inl tw) := (hfr19 16 (by omega)).trans h5
  have h23 : w15 17 = .inl (k.1, 40, .inl td) := (hfr19 17 (by omega)).trans h6
  have h24 : w15 18 = .inl (k.1, 40, .inl sb) := (hfr19 18 (by omega)).trans h7
  have h25 : w15 19 = .inl (k.1, 40, .inl sd) := (hfr19 19 (by omega)).trans h8
  have h26 : w15 20 = .inl (k.1, 40, .inl su) := (hfr19 20 (by omega)).trans h9
  refine lv_aload_n hx hb dL_law_1085 rfl (lv_at hl 3 rfl) ?_
  refine g_ViR (i := 22) (As := []) (rest := []) (kD_thrown hA h17) calD_thrown cvD_thrown mlL_89 hx hb hml hown hts hB hG hK hS (by decide) h17 rfl ⟨by decide, by decide⟩ rfl hl.1 rfl (Nat.le_of_ble_eq_true rfl) dL_law_1086 ⟨by show cs + 0 + 0 + 0 ≤ 1087; omega, by show ss + 0 + 0 + 0 ≤ 9297; omega⟩ (fun H locs hG hS => ?_)
  refine lv_iload hx hb dL_law_1089 (lv_at hl 0 rfl) ?_
  refine lv_icmp_eq (tgt := 1096) hx hb dL_law_1091 (by decide) (fun _ => ?_) (fun h9 => absurd h9 (by decide))
  refine lv_goto (tgt := 1235) hx hb dL_law_1096 (by decide) ?_
  exact kk _ _ _ _  h20 ⟨h21, h22, h23, h24, h25, h26⟩ h17  (fun z hz => (hfr19 z hz.2).trans (hfr11 z hz.1)) hG hS (lv_sub hl [1, 2, 3, 4, 5] rfl)

set_option maxRecDepth 100000 in
set_option maxHeartbeats 4000000 in
theorem st_molding_z {p : Program} {l : Launch} {e : Env} {s : State} {m : MethodId} {args : Array Value} {below : List Frame} {meth : Method} {c : Code} {Q : State → Prop} (hl9 : l.stackTraces = false) {D : va_G} {k : ClassId × ClassId × ClassId} {a : Nat → Nat} {B0 : Nat} {w : Nat → va_E} (hA : gA B0 a) (hx : p.tables.exec = Jvm.exec) (hb : c.code = cL_law) (hml : c.maxLocals = 8) (hown : s.vm.findClass RL = some m.cls) (hts : ∀ w ∈ TB, w.before args s = true) (hB : B0 ≤ s.heap.size) (hK : va_K D vwCl (gT k) s) (hXS : xS B0 s) {b Ls : Nat} {xs : Nat → Int32} (hX : va_X b Ls xs s s.heap) (hbl : b < s.heap.size) (hbA : ¬ gF B0 b) (hL9 : Ls ≤ 2048) {ii : Nat} (hi4 : ii + 4 ≤ Ls) {bw : Int32} {bd : Int32} {bu : Int32} {nt : Nat} {ns : Nat} {tw : Nat → Int32} {td : Nat → Int32} {sb : Nat → Int32} {sd : Nat → Int32} {su : Nat → Int32} {th : Int32} {n : Nat} {nr : Nat} {nf : Nat} (hsX : sX k a w ) (hsM : sM k a w bw bd bu nt ns tw td sb sd su) (hsD : sD k a w th n nr nf bw bd nt) (x : Int32) (y : Int32) (h_1 : xs (ii + 1) = x) (h_2 : xs (ii + 2) = y) (hz : ¬ (wdR x ∧ wdR y)) (hzD : ¬ (wdR x ∧ wdR y)) {H : Heap} {locs : List Loc} {ls : Array Slot} (hG : gW D a w H) (hS : va_S (gF B0) s.heap H locs) (hl : lv_has ls 8 [(0, .ref b), (1, .ref (a 0)), (2, .ref (a 22)), (3, .ref (a 21)), (4, .int (nI ii))]) {cs ss : Nat} (hcs : cs + 1 ≤ 1087) (hss : ss + 6 ≤ 9297)
 (kk : ∀ (w' : Nat → va_E) (H' : Heap) (locs' : List Loc) (ls' : Array Slot) , sX k a w' → sM k a w' bw bd bu nt ns tw td sb sd su → sD k a w' 1 n nr nf bw bd nt → (∀ z, (z < 22 ∨ 22 < z) → w' z = w z) → gW D a w' H' → va_S (gF B0) s.heap H' locs' → lv_has ls' 8 [(0, .ref b), (1, .ref (a 0)), (2, .ref (a 22)), (3, .ref (a 21)), (4, .int (nI ii))] → W p l e room_1 s m args below meth c H' locs' (cs + 1) (ss + 6) Q (F0 m 1235 ls' [])) : W p l e room_1 s m args below meth c H locs cs ss Q (F0 m 1051 ls []) := by
  have hsX0 := hsX
  obtain ⟨hsM15, hsM16, hsM17, hsM18, hsM19, hsM20⟩ := hsM
  have hsD22 := hsD
  refine lv_aload_n hx hb dL_law_1051 rfl (lv_at hl 1 rfl) ?_
  refine lv_aload_n hx hb dL_law_1052 rfl (lv_at hl 0 rfl) ?_
  refine lv_iload hx hb dL_law_1053 (lv_at hl 4 rfl) ?_
  refine lv_iconst (v := 1) hx hb dL_law_1055 (by decide) ?_
  refine ln_iadd (x := ii) (y := 1) hx hb dL_law_1056 ?_
  refine l_sld (v := x) hx hb hX hbl hbA hS (j := ii + 1) (by omega) (by omega) h_1 dL_law_1057 ?_
  refine lv_aload_n hx hb dL_law_1058 rfl (lv_at hl 0 rfl) ?_
  refine lv_iload hx hb dL_law_1059 (lv_at hl 4 rfl) ?_
  refine lv_iconst (v := 2) hx hb dL_law_1061 (by decide) ?_
  refine ln_iadd (x := ii) (y := 2) hx hb dL_law_1062 ?_
  refine l_sld (v := y) hx hb hX hbl hbA hS (j := ii + 2) (by omega) (by omega) h_2 dL_law_1063 ?_
  refine y_Si (As := [.ref (a 0), .int x, .int y]) (rest := []) (kL_molding_z hl9 hA hsX0 ⟨hsM15, hsM16, hsM17, hsM18, hsM19, hsM20⟩ x y hz) calL_molding mlL_140 hx hb hml hown hts hB hG hK hS hXS ⟨by decide, by decide⟩ rfl hl.1 rfl (Nat.le_of_ble_eq_true rfl) dL_law_1064 ⟨by show cs + 1 ≤ 1087; omega, by show ss + 6 ≤ 9297; omega⟩ (fun H locs hG hS => ?_)
  refine lv_istore (lv' := [(5, .int 1), (0, .ref b), (1, .ref (a 0)), (2, .ref (a 22)), (3, .ref (a 21)), (4, .int (nI ii))]) hx hb dL_law_1067 hl (by decide) rfl (fun ls hl => ?_)
  refine lv_aload_n hx hb dL_law_1069 rfl (lv_at hl 3 rfl) ?_
  refine lv_aload_n hx hb dL_law_1070 rfl (lv_at hl 1 rfl) ?_
  refine lv_iload hx hb dL_law_1071 (lv_at hl 5 rfl) ?_
  refine lv_iconst (v := 1) hx hb dL_law_1073 (by decide) ?_
  refine ln_iadd (x := ii) (y := 1) hx hb dL_law_1074 ?_
  refine l_sld (v := x) hx hb hX hbl hbA hS (j := ii + 1) (by omega) (by omega) h_1 dL_law_1075 ?_
  refine lv_aload_n hx hb dL_law_1076 rfl (lv_at hl 1 rfl) ?_
  refine lv_iload hx hb dL_law_1077 (lv_at hl 5 rfl) ?_
  refine lv_iconst (v := 2) hx hb dL_law_1079 (by decide) ?_
  refine ln_iadd (x := ii) (y := 2) hx hb dL_law_1080 ?_
  refine l_sld (v := y) hx hb hX hbl hbA hS (j := ii + 2) (by omega) (by omega) h_2 dL_law_1081 ?_
  refine g_Vv (i := 22) (As := [.int x, .int y]) (rest := []) (kD_molding_z hA hsD22 x y hzD) calD_molding cvD_molding mlL_143 hx hb hml hown hts hB hG hK hS (by decide) hsD22 rfl ⟨by decide, by decide⟩ rfl hl.1 rfl (Nat.le_of_ble_eq_true rfl) dL_law_1082 ⟨by show cs + 1 + 0 ≤ 1087; omega, by show ss + 6 + 0 ≤ 9297; omega⟩ (fun w2 H locs hp3 hG hS => ?_)
  obtain ⟨h4, hfr6⟩ := hp3
  have h7 : w2 0 = .inr (0, [.ref (a 1), .ref (a 9), .ref (a 12), .ref (a 15)]) := (hfr6 0 (by omega)).trans hsX0
  have h8 : w2 15 = .inr (4, [.ref (a 16), .ref (a 17), .ref (a 18), .ref (a 19), .ref (a 20), .int bw, .int bd, .int bu, .int (nI nt), .int (nI ns)]) := (hfr6 15 (by omega)).trans hsM15
  have h9 : w2 16 = .inl (k.1, 40, .inl tw) := (hfr6 16 (by omega)).trans hsM16
  have h10 : w2 17 = .inl (k.1, 40, .inl td) := (hfr6 17 (by omega)).trans hsM17
  have h11 : w2 18 = .inl (k.1, 40, .inl sb) := (hfr6 18 (by omega)).trans hsM18
  have h12 : w2 19 = .inl (k.1, 40, .inl sd) := (hfr6 19 (by omega)).trans hsM19
  have h13 : w2 20 = .inl (k.1, 40, .inl su) := (hfr6 20 (by omega)).trans hsM20
  refine lv_aload_n hx hb dL_law_1085 rfl (lv_at hl 3 rfl) ?_
  refine g_ViR (i := 22) (As := []) (rest := []) (kD_thrown hA h4) calD_thrown cvD_thrown mlL_89 hx hb hml hown hts hB hG hK hS (by decide) h4 rfl ⟨by decide, by decide⟩ rfl hl.1 rfl (Nat.le_of_ble_eq_true rfl) dL_law_1086 ⟨by show cs + 1 + 0 + 0 ≤ 1087; omega, by show ss + 6 + 0 + 0 ≤ 9297; omega⟩ (fun H locs hG hS => ?_)
  refine lv_iload hx hb dL_law_1089 (lv_at hl 0 rfl) ?_
  refine lv_icmp_eq (tgt := 1096) hx hb dL_law_1091 (by decide) (fun _ => ?_) (fun h9 => absurd h9 (by decide))
  refine lv_goto (tgt := 1235) hx hb dL_law_1096 (by decide) ?_
  exact kk _ _ _ _  h7 ⟨h8, h9, h10, h11, h12, h13⟩ h4  hfr6 hG hS (lv_sub hl [1, 2, 3, 4, 5] rfl)

set_option maxRecDepth 100000 in
set_option maxHeartbeats 4000000 in
theorem st_pack_o {p : Program} {l : Launch} {e : Env} {s : State} {m : MethodId} {args : Array Value} {below : List Frame} {meth : Method} {c : Code} {Q : State → Prop} (hl9 : l.stackTraces = false) {D : va_G} {k : ClassId × ClassId × ClassId} {a : Nat → Nat} {B0 : Nat} {w : Nat → va_E} (hA : gA B0 a) (hx : p.tables.exec = Jvm.exec) (hb : c.code = cL_law) (hml : c.maxLocals = 8) (hown : s.vm.findClass RL = some m.cls) (hts : ∀ w ∈ TB, w.before args s = true) (hB : B0 ≤ s.heap.size) (hK : va_K D vwCl (gT k) s) (hXS : xS B0 s) {b Ls : Nat} {xs : Nat → Int32} (hX : va_X b Ls xs s s.heap) (hbl : b < s.heap.size) (hbA : ¬ gF B0 b) (hL9 : Ls ≤ 2048) {ii : Nat} (hi4 : ii + 4 ≤ Ls) {bw : Int32} {bd : Int32} {bu : Int32} {nt : Nat} {ns : Nat} {tw : Nat → Int32} {td : Nat → Int32} {sb : Nat → Int32} {sd : Nat → Int32} {su : Nat → Int32} {oo : Nat → Int64} {th : Int32} {n : Nat} {nr : Nat} {nf : Nat} {xa : Nat → Int32} {xf : Nat → Int32} {xw : Nat → Int32} {xd : Nat → Int32} (hsX : sX k a w ) (hsM : sM k a w bw bd bu nt ns tw td sb sd su) (hsO : sO k a w oo) (hsD : sD k a w th n nr nf bw bd nt) (hsDM : sDM k a w xa xf xw xd) (x : Int32) (y : Int32) (h_1 : xs (ii + 1) = x) (h_2 : xs (ii + 2) = y) (i : Nat) (hi : i < ns) (hns : ns ≤ nt) (hnt : nt < 40) (h1 : wdR x) (h2 : wdR y) (hsh : shF bw bd bu ns sd su x y ns 0 = nI i) (iD : Nat) (hiD : iD < nt) (hnD : nt < 40) (h1D : wdR x) (h2D : wdR y) (hshD : fstF (mShP bw xa xf xw xd nt x y) nt 0 = nI iD) (hval : (nI nt).toInt64 = (nI nt).toInt64) {H : Heap} {locs : List Loc} {ls : Array Slot} (hG : gW D a w H) (hS : va_S (gF B0) s.heap H locs) (hl : lv_has ls 8 [(0, .ref b), (1, .ref (a 0)), (2, .ref (a 22)), (3, .ref (a 21)), (4, .int (nI ii))]) {cs ss : Nat} (hcs : cs + 1 ≤ 1087) (hss : ss + 6 ≤ 9297)
 (kk : ∀ (w' : Nat → va_E) (H' : Heap) (locs' : List Loc) (ls' : Array Slot) , sX k a w' → sM k a w' bw bd bu (nt + 1) ns (upd tw nt (su i)) (upd td nt (sb i)) sb sd (upd su i (su i + x)) → sO k a w' (vp_updL oo 0 ((nI nt).toInt64)) → sD k a w' 0 n nr nf bw bd (nt + 1) → sDM k a w' (upd xa nt (mTk xf xw nt iD)) (upd xf nt (xf iD)) (upd xw nt x) (upd xd nt y) → (∀ z, ((z < 15 ∨ 20 < z) ∧ z ≠ 21) ∧ ((z < 34 ∨ 37 < z) ∧ z ≠ 22) → w' z = w z) → gW D a w' H' → va_S (gF B0) s.heap H' locs' → lv_has ls' 8 [(0, .ref b), (1, .ref (a 0)), (2, .ref (a 22)), (3, .ref (a 21)), (4, .int (nI ii))] → W p l e room_1 s m args below meth c H' locs' (cs + 0) (ss + 0) Q (F0 m 1235 ls' [])) : W p l e room_1 s m args below meth c H locs cs ss Q (F0 m 1099 ls []) := by
  have hsX0 := hsX
  obtain ⟨hsM15, hsM16, hsM17, hsM18, hsM19, hsM20⟩ := hsM
  have hsO21 := hsO
  have hsD22 := hsD
  obtain ⟨hsDM34, hsDM35, hsDM36, hsDM37⟩ := hsDM
  refine lv_aload_n hx hb dL_law_1099 rfl (lv_at hl 1 rfl) ?_
  refine lv_aload_n hx hb dL_law_1100 rfl (lv_at hl 0 rfl) ?_
  refine lv_iload hx hb dL_law_1101 (lv_at hl 4 rfl) ?_
  refine lv_iconst (v := 1) hx hb dL_law_1103 (by decide) ?_
  refine ln_iadd (x := ii) (y := 1) hx hb dL_law_1104 ?_
  refine l_sld (v := x) hx hb hX hbl hbA hS (j := ii + 1) (by omega) (by omega) h_1 dL_law_1105 ?_
  refine lv_aload_n hx hb dL_law_1106 rfl (lv_at hl 0 rfl) ?_
  refine lv_iload hx hb dL_law_1107 (lv_at hl 4 rfl) ?_
  refine lv_iconst (v := 2) hx hb dL_law_1109 (by decide) ?_
  refine ln_iadd (x := ii) (y := 2) hx hb dL_law_1110 ?_
  refine l_sld (v := y) hx hb hX hbl hbA hS (j := ii + 2) (by omega) (by omega) h_2 dL_law_1111 ?_
  refine lv_aload_n hx hb dL_law_1112 rfl (lv_at hl 3 rfl) ?_
  refine h_Si (As := [.ref (a 0), .int x, .int y, .ref (a 21)]) (rest := []) (kL_pack_o hA hsX0 ⟨hsM15, hsM16, hsM17, hsM18, hsM19, hsM20⟩ hsO21 x y i hi hns hnt h1 h2 hsh) calL_pack mlL_144 hx hb hml hown hts hB hG hK hS ⟨by decide, by decide⟩ rfl hl.1 rfl (Nat.le_of_ble_eq_true rfl) dL_law_1113 ⟨by show cs + 0 ≤ 1087; omega, by show ss + 0 ≤ 9297; omega⟩ (fun r1 w2 H locs hp3 hG hS => ?_)
  obtain ⟨er11, ⟨h4, h5, h6, h7, h8, h9⟩, h10, hfr12⟩ := hp3
  have h13 : w2 0 = .inr (0, [.ref (a 1), .ref (a 9), .ref (a 12), .ref (a 15)]) := (hfr12 0 (by omega)).trans hsX0
  have h14 : w2 22 = .inr (5, [.int th, .int (nI n), .ref (a 23), .ref (a 24), .ref (a 25), .ref (a 26), .ref (a 27), .ref (a 28), .ref (a 29), .int (nI nr), .ref (a 30), .ref (a 31), .int (nI nf), .ref (a 32), .ref (a 33), .int bw, .int bd, .int (nI nt), .ref (a 34), .ref (a 35), .ref (a 36), .ref (a 37)]) := (hfr12 22 (by omega)).trans hsD22
  have h15 : w2 34 = .inl (k.1, 40, .inl xa) := (hfr12 34 (by omega)).trans hsDM34
  have h16 : w2 35 = .inl (k.1, 40, .inl xf) := (hfr12 35 (by omega)).trans hsDM35
  have h17 : w2 36 = .inl (k.1, 40, .inl xw) := (hfr12 36 (by omega)).trans hsDM36
  have h18 : w2 37 = .inl (k.1, 40, .inl xd) := (hfr12 37 (by omega)).trans hsDM37
  rw [er11]
  refine lv_istore (lv' := [(5, .int 0), (0, .ref b), (1, .ref (a 0)), (2, .ref (a 22)), (3, .ref (a 21)), (4, .int (nI ii))]) hx hb dL_law_1116 hl (by decide) rfl (fun ls hl => ?_)
  refine lv_aload_n hx hb dL_law_1118 rfl (lv_at hl 3 rfl) ?_
  refine lv_aload_n hx hb dL_law_1119 rfl (lv_at hl 1 rfl) ?_
  refine lv_iload hx hb dL_law_1120 (lv_at hl 5 rfl) ?_
  refine lv_iconst (v := 1) hx hb dL_law_1122 (by decide) ?_
  refine ln_iadd (x := ii) (y := 1) hx hb dL_law_1123 ?_
  refine l_sld (v := x) hx hb hX hbl hbA hS (j := ii + 1) (by omega) (by omega) h_1 dL_law_1124 ?_
  refine lv_aload_n hx hb dL_law_1125 rfl (lv_at hl 1 rfl) ?_
  refine lv_iload hx hb dL_law_1126 (lv_at hl 5 rfl) ?_
  refine lv_iconst (v := 2) hx hb dL_law_1128 (by decide) ?_
  refine ln_iadd (x := ii) (y := 2) hx hb dL_law_1129 ?_
  refine l_sld (v := y) hx hb hX hbl hbA hS (j := ii + 2) (by omega) (by omega) h_2 dL_law_1130 ?_
  refine g_Vi (i := 22) (As := [.int x, .int y]) (rest := []) (kD_pack_o hA h14 ⟨h15, h16, h17, h18⟩ x y iD hiD hnD h1D h2D hshD) calD_pack cvD_pack mlL_146 hx hb hml hown hts hB hG hK hS (by decide) h14 rfl ⟨by decide, by decide⟩ rfl hl.1 rfl (Nat.le_of_ble_eq_true rfl) dL_law_1131 ⟨by show cs + 0 + 0 ≤ 1087; omega, by show ss + 0 + 0 ≤ 9297; omega⟩ (fun r19 w20 H locs hp21 hG hS => ?_)
  obtain ⟨er27, h22, ⟨h23, h24, h25, h26⟩, hfr28⟩ := hp21
  have h29 : w20 0 = .inr (0, [.ref (a 1), .ref (a 9), .ref (a 12), .ref (a 15)]) := (hfr28 0 (by omega)).trans h13
  have h30 : w20 15 = .inr (4, [.ref (a 16), .ref (a 17), .ref (a 18), .ref (a 19), .ref (a 20), .int bw, .int bd, .int bu, .int (nI (nt + 1)), .int (nI ns)]) := (hfr28 15 (by omega)).trans h4
  have h31 : w20 16 = .inl (k.1, 40, .inl (upd tw nt (su i))) := (hfr28 16 (by omega)).trans h5
  have h32 : w20 17 = .inl (k.1, 40, .inl (upd td nt (sb i))) := (hfr28 17 (by omega)).trans h6
  have h33 : w20 18 = .inl (k.1, 40, .inl sb) := (hfr28 18 (by omega)).trans h7
  have h34 : w20 19 = .inl (k.1, 40, .inl sd) := (hfr28 19 (by omega)).trans h8
  have h35 : w20 20 = .inl (k.1, 40, .inl (upd su i (su i + x))) := (hfr28 20 (by omega)).trans h9
  have h36 : w20 21 = .inl (k.2.1, 1, .inr (.inl (vp_updL oo 0 ((nI nt).toInt64)))) := (hfr28 21 (by omega)).trans h10
  rw [er27]
  refine lv_istore (lv' := [(6, .int (nI nt)), (5, .int 0), (0, .ref b), (1, .ref (a 0)), (2, .ref (a 22)), (3, .ref (a 21)), (4, .int (nI ii))]) hx hb dL_law_1134 hl (by decide) rfl (fun ls hl => ?_)
  refine lv_aload_n hx hb dL_law_1136 rfl (lv_at hl 4 rfl) ?_
  refine g_ViR (i := 22) (As := []) (rest := []) (kD_thrown hA h22) calD_thrown cvD_thrown mlL_89 hx hb hml hown hts hB hG hK hS (by decide) h22 rfl ⟨by decide, by decide⟩ rfl hl.1 rfl (Nat.le_of_ble_eq_true rfl) dL_law_1137 ⟨by show cs + 0 + 0 + 0 ≤ 1087; omega, by show ss + 0 + 0 + 0 ≤ 9297; omega⟩ (fun H locs hG hS => ?_)
  refine lv_iload hx hb dL_law_1140 (lv_at hl 1 rfl) ?_
  refine lv_icmp_eq (tgt := 1147) hx hb dL_law_1142 (by decide) (fun _ => ?_) (fun h9 => absurd h9 (by decide))
  refine lv_iload hx hb dL_law_1147 (lv_at hl 1 rfl) ?_
  refine lv_if_ne (tgt := 1164) hx hb dL_law_1149 (by decide) (fun h9 => absurd h9 (by decide)) (fun _ => ?_)
  refine lv_aload_n hx hb dL_law_1152 rfl (lv_at hl 5 rfl) ?_
  refine lv_iconst (v := 0) hx hb dL_law_1153 (by decide) ?_
  refine g_lald hx hb hK hG 21 (by decide) h36 (j := 0) (by omega) (by decide) dL_law_1154 ?_
  refine lv_iload hx hb dL_law_1155 (lv_at hl 0 rfl) ?_
  refine lv_i2l hx hb dL_law_1157 rfl ?_
  refine W.lcmp hx hb dL_law_1158 ?_
  refine lc_if_eq (tgt := 1164) hx hb dL_law_1159 (by decide) (fun c39 => ?_) (fun c39 => (absurd (pk_uLs.trans hval) c39))
  refine lv_goto (tgt := 1235) hx hb dL_law_1164 (by decide) ?_
  exact kk _ _ _ _  h29 ⟨h30, h31, h32, h33, h34, h35⟩ h36 h22 ⟨h23, h24, h25, h26⟩  (fun z hz => (hfr28 z hz.2).trans (hfr12 z hz.1)) hG hS (lv_sub hl [2, 3, 4, 5, 6] rfl)

set_option maxRecDepth 100000 in
set_option maxHeartbeats 4000000 in
theorem st_pack_n {p : Program} {l : Launch} {e : Env} {s : State} {m : MethodId} {args : Array Value} {below : List Frame} {meth : Method} {c : Code} {Q : State → Prop} (hl9 : l.stackTraces = false) {D : va_G} {k : ClassId × ClassId × ClassId} {a : Nat → Nat} {B0 : Nat} {w : Nat → va_E} (hA : gA B0 a) (hx : p.tables.exec = Jvm.exec) (hb : c.code = cL_law) (hml : c.maxLocals = 8) (hown : s.vm.findClass RL = some m.cls) (hts : ∀ w ∈ TB, w.before args s = true) (hB : B0 ≤ s.heap.size) (hK : va_K D vwCl (gT k) s) (hXS : xS B0 s) {b Ls : Nat} {xs : Nat → Int32} (hX : va_X b Ls xs s s.heap) (hbl : b < s.heap.size) (hbA : ¬ gF B0 b) (hL9 : Ls ≤ 2048) {ii : Nat} (hi4 : ii + 4 ≤ Ls) {bw : Int32} {bd : Int32} {bu : Int32} {nt : Nat} {ns : Nat} {tw : Nat → Int32} {td : Nat → Int32} {sb : Nat → Int32} {sd : Nat → Int32} {su : Nat → Int32} {oo : Nat → Int64} {th : Int32} {n : Nat} {nr : Nat} {nf : Nat} {xa : Nat → Int32} {xf : Nat → Int32} {xw : Nat → Int32} {xd : Nat → Int32} (hsX : sX k a w ) (hsM : sM k a w bw bd bu nt ns tw td sb sd su) (hsO : sO k a w oo) (hsD : sD k a w th n nr nf bw bd nt) (hsDM : sDM k a w xa xf xw xd) (x : Int32) (y : Int32) (h_1 : xs (ii + 1) = x) (h_2 : xs (ii + 2) = y) (hns : ns ≤ nt) (hnt : nt < 40) (h1 : wdR x) (h2 : wdR y) (hsh : shF bw bd bu ns sd su x y ns 0 = nI ns) (hnD : nt < 40) (h1D : wdR x) (h2D : wdR y) (hshD : fstF (mShP bw xa xf xw xd nt x y) nt 0 = -1) (hb1D : ¬ bw < x) (hb2D : y ≤ bd - seF xa xf xd nt 0 0) (hval : (nI nt).toInt64 = (nI nt).toInt64) {H : Heap} {locs : List Loc} {ls : Array Slot} (hG : gW D a w H) (hS : va_S (gF B0) s.heap H locs) (hl : lv_has ls 8 [(0, .ref b), (1, .ref (a 0)), (2, .ref (a 22)), (3, .ref (a 21)), (4, .int (nI ii))]) {cs ss : Nat} (hcs : cs + 1 ≤ 1087) (hss : ss + 6 ≤ 9297)
 (kk : ∀ (w' : Nat → va_E) (H' : Heap) (locs' : List Loc) (ls' : Array Slot) , sX k a w' → sM k a w' bw bd (bu + y) (nt + 1) (ns + 1) (upd tw nt (upd su ns 0 ns)) (upd td nt (upd sb ns bu ns)) (upd sb ns bu) (upd sd ns y) (upd (upd su ns 0) ns (upd su ns 0 ns + x)) → sO k a w' (vp_updL oo 0 ((nI nt).toInt64)) → sD k a w' 0 n nr nf bw bd (nt + 1) → sDM k a w' (upd xa nt 0) (upd xf nt (seF (upd xa nt 0) xf xd nt 0 0)) (upd xw nt x) (upd xd nt y) → (∀ z, ((z < 15 ∨ 20 < z) ∧ z ≠ 21) ∧ ((z < 34 ∨ 37 < z) ∧ z ≠ 22) → w' z = w z) → gW D a w' H' → va_S (gF B0) s.heap H' locs' → lv_has ls' 8 [(0, .ref b), (1, .ref (a 0)), (2, .ref (a 22)), (3, .ref (a 21)), (4, .int (nI ii))] → W p l e room_1 s m args below meth c H' locs' (cs + 0) (ss + 0) Q (F0 m 1235 ls' [])) : W p l e room_1 s m args below meth c H locs cs ss Q (F0 m 1099 ls []) := by
  have hsX0 := hsX
  obtain ⟨hsM15, hsM16, hsM17, hsM18, hsM19, hsM20⟩ := hsM
  have hsO21 := hsO
  have hsD22 := hsD
  obtain ⟨hsDM34, hsDM35, hsDM36, hsDM37⟩ := hsDM
  refine lv_aload_n hx hb dL_law_1099 rfl (lv_at hl 1 rfl) ?_
  refine lv_aload_n hx hb dL_law_1100 rfl (lv_at hl 0 rfl) ?_
  refine lv_iload hx hb dL_law_1101 (lv_at hl 4 rfl) ?_
  refine lv_iconst (v := 1) hx hb dL_law_1103 (by decide) ?_
  refine ln_iadd (x := ii) (y := 1) hx hb dL_law_1104 ?_
  refine l_sld (v := x) hx hb hX hbl hbA hS (j := ii + 1) (by omega) (by omega) h_1 dL_law_1105 ?_
  refine lv_aload_n hx hb dL_law_1106 rfl (lv_at hl 0 rfl) ?_
  refine lv_iload hx hb dL_law_1107 (lv_at hl 4 rfl) ?_
  refine lv_iconst (v := 2) hx hb dL_law_1109 (by decide) ?_
  refine ln_iadd (x := ii) (y := 2) hx hb dL_law_1110 ?_
  refine l_sld (v := y) hx hb hX hbl hbA hS (j := ii + 2) (by omega) (by omega) h_2 dL_law_1111 ?_
  refine lv_aload_n hx hb dL_law_1112 rfl (lv_at hl 3 rfl) ?_
  refine h_Si (As := [.ref (a 0), .int x, .int y, .ref (a 21)]) (rest := []) (kL_pack_n hA hsX0 ⟨hsM15, hsM16, hsM17, hsM18, hsM19, hsM20⟩ hsO21 x y hns hnt h1 h2 hsh) calL_pack mlL_144 hx hb hml hown hts hB hG hK hS ⟨by decide, by decide⟩ rfl hl.1 rfl (Nat.le_of_ble_eq_true rfl) dL_law_1113 ⟨by show cs + 0 ≤ 1087; omega, by show ss + 0 ≤ 9297; omega⟩ (fun r1 w2 H locs hp3 hG hS => ?_)
  obtain ⟨er11, ⟨h4, h5, h6, h7, h8, h9⟩, h10, hfr12⟩ := hp3
  have h13 : w2 0 = .inr (0, [.ref (a 1), .ref (a 9), .ref (a 12), .ref (a 15)]) := (hfr12 0 (by omega)).trans hsX0
  have h14 : w2 22 = .inr (5, [.int th, .int (nI n), .ref (a 23), .ref (a 24), .ref (a 25), .ref (a 26), .ref (a 27), .ref (a 28), .ref (a 29), .int (nI nr), .ref (a 30), .ref (a 31), .int (nI nf), .ref (a 32), .ref (a 33), .int bw, .int bd, .int (nI nt), .ref (a 34), .ref (a 35), .ref (a 36), .ref (a 37)]) := (hfr12 22 (by omega)).trans hsD22
  have h15 : w2 34 = .inl (k.1, 40, .inl xa) := (hfr12 34 (by omega)).trans hsDM34
  have h16 : w2 35 = .inl (k.1, 40, .inl xf) := (hfr12 35 (by omega)).trans hsDM35
  have h17 : w2 36 = .inl (k.1, 40, .inl xw) := (hfr12 36 (by omega)).trans hsDM36
  have h18 : w2 37 = .inl (k.1, 40, .inl xd) := (hfr12 37 (by omega)).trans hsDM37
  rw [er11]
  refine lv_istore (lv' := [(5, .int 0), (0, .ref b), (1, .ref (a 0)), (2, .ref (a 22)), (3, .ref (a 21)), (4, .int (nI ii))]) hx hb dL_law_1116 hl (by decide) rfl (fun ls hl => ?_)
  refine lv_aload_n hx hb dL_law_1118 rfl (lv_at hl 3 rfl) ?_
  refine lv_aload_n hx hb dL_law_1119 rfl (lv_at hl 1 rfl) ?_
  refine lv_iload hx hb dL_law_1120 (lv_at hl 5 rfl) ?_
  refine lv_iconst (v := 1) hx hb dL_law_1122 (by decide) ?_
  refine ln_iadd (x := ii) (y := 1) hx hb dL_law_1123 ?_
  refine l_sld (v := x) hx hb hX hbl hbA hS (j := ii + 1) (by omega) (by omega) h_1 dL_law_1124 ?_
  refine lv_aload_n hx hb dL_law_1125 rfl (lv_at hl 1 rfl) ?_
  refine lv_iload hx hb dL_law_1126 (lv_at hl 5 rfl) ?_
  refine lv_iconst (v := 2) hx hb dL_law_1128 (by decide) ?_
  refine ln_iadd (x := ii) (y := 2) hx hb dL_law_1129 ?_
  refine l_sld (v := y) hx hb hX hbl hbA hS (j := ii + 2) (by omega) (by omega) h_2 dL_law_1130 ?_
  refine g_Vi (i := 22) (As := [.int x, .int y]) (rest := []) (kD_pack_n hA h14 ⟨h15, h16, h17, h18⟩ x y hnD h1D h2D hshD hb1D hb2D) calD_pack cvD_pack mlL_146 hx hb hml hown hts hB hG hK hS (by decide) h14 rfl ⟨by decide, by decide⟩ rfl hl.1 rfl (Nat.le_of_ble_eq_true rfl) dL_law_1131 ⟨by show cs + 0 + 0 ≤ 1087; omega, by show ss + 0 + 0 ≤ 9297; omega⟩ (fun r19 w20 H locs hp21 hG hS => ?_)
  obtain ⟨er27, h22, ⟨h23, h24, h25, h26⟩, hfr28⟩ := hp21
  have h29 : w20 0 = .inr (0, [.ref (a 1), .ref (a 9), .ref (a 12), .ref (a 15)]) := (hfr28 0 (by omega)).trans h13
  have h30 : w20 15 = .inr (4, [.ref (a 16), .ref (a 17), .ref (a 18), .ref (a 19), .ref (a 20), .int bw, .int bd, .int (bu + y), .int (nI (nt + 1)), .int (nI (ns + 1))]) := (hfr28 15 (by omega)).trans h4
  have h31 : w20 16 = .inl (k.1, 40, .inl (upd tw nt (upd su ns 0 ns))) := (hfr28 16 (by omega)).trans h5
  have h32 : w20 17 = .inl (k.1, 40, .inl (upd td nt (upd sb ns bu ns))) := (hfr28 17 (by omega)).trans h6
  have h33 : w20 18 = .inl (k.1, 40, .inl (upd sb ns bu)) := (hfr28 18 (by omega)).trans h7
  have h34 : w20 19 = .inl (k.1, 40, .inl (upd sd ns y)) := (hfr28 19 (by omega)).trans h8
  have h35 : w20 20 = .inl (k.1, 40, .inl (upd (upd su ns 0) ns (upd su ns 0 ns + x))) := (hfr28 20 (by omega)).trans h9
  have h36 : w20 21 = .inl (k.2.1, 1, .inr (.inl (vp_updL oo 0 ((nI nt).toInt64)))) := (hfr28 21 (by omega)).trans h10
  rw [er27]
  refine lv_istore (lv' := [(6, .int (nI nt)), (5, .int 0), (0, .ref b), (1, .ref (a 0)), (2, .ref (a 22)), (3, .ref (a 21)), (4, .int (nI ii))]) hx hb dL_law_1134 hl (by decide) rfl (fun ls hl => ?_)
  refine lv_aload_n hx hb dL_law_1136 rfl (lv_at hl 4 rfl) ?_
  refine g_ViR (i := 22) (As := []) (rest := []) (kD_thrown hA h22) calD_thrown cvD_thrown mlL_89 hx hb hml hown hts hB hG hK hS (by decide) h22 rfl ⟨by decide, by decide⟩ rfl hl.1 rfl (Nat.le_of_ble_eq_true rfl) dL_law_1137 ⟨by show cs + 0 + 0 + 0 ≤ 1087; omega, by show ss + 0 + 0 + 0 ≤ 9297; omega⟩ (fun H locs hG hS => ?_)
  refine lv_iload hx hb dL_law_1140 (lv_at hl 1 rfl) ?_
  refine lv_icmp_eq (tgt := 1147) hx hb dL_law_1142 (by decide) (fun _ => ?_) (fun h9 => absurd h9 (by decide))
  refine lv_iload hx hb dL_law_1147 (lv_at hl 1 rfl) ?_
  refine lv_if_ne (tgt := 1164) hx hb dL_law_1149 (by decide) (fun h9 => absurd h9 (by decide)) (fun _ => ?_)
  refine lv_aload_n hx hb dL_law_1152 rfl (lv_at hl 5 rfl) ?_
  refine lv_iconst (v := 0) hx hb dL_law_1153 (by decide) ?_
  refine g_lald hx hb hK hG 21 (by decide) h36 (j := 0) (by omega) (by decide) dL_law_1154 ?_
  refine lv_iload hx hb dL_law_1155 (lv_at hl 0 rfl) ?_
  refine lv_i2l hx hb dL_law_1157 rfl ?_
  refine W.lcmp hx hb dL_law_1158 ?_
  refine lc_if_eq (tgt := 1164) hx hb dL_law_1159 (by decide) (fun c39 => ?_) (fun c39 => (absurd (pk_uLs.trans hval) c39))
  refine lv_goto (tgt := 1235) hx hb dL_law_1164 (by decide) ?_
  exact kk _ _ _ _  h29 ⟨h30, h31, h32, h33, h34, h35⟩ h36 h22 ⟨h23, h24, h25, h26⟩  (fun z hz => (hfr28 z hz.2).trans (hfr12 z hz.1)) hG hS (lv_sub hl [2, 3, 4, 5, 6] rfl)

set_option maxRecDepth 100000 in
set_option maxHeartbeats 4000000 in
theorem st_pack_f {p : Program} {l : Launch} {e : Env} {s : State} {m : MethodId} {args : Array Value} {below : List Frame} {meth : Method} {c : Code} {Q : State → Prop} (hl9 : l.stackTraces = false) {D : va_G} {k : ClassId × ClassId × ClassId} {a : Nat → Nat} {B0 : Nat} {w : Nat → va_E} (hA : gA B0 a) (hx : p.tables.exec = Jvm.exec) (hb : c.code = cL_law) (hml : c.maxLocals = 8) (hown : s.vm.findClass RL = some m.cls) (hts : ∀ w ∈ TB, w.before args s = true) (hB : B0 ≤ s.heap.size) (hK : va_K D vwCl (gT k) s) (hXS : xS B0 s) {b Ls : Nat} {xs : Nat → Int32} (hX : va_X b Ls xs s s.heap) (hbl : b < s.heap.size) (hbA : ¬ gF B0 b) (hL9 : Ls ≤ 2048) {ii : Nat} (hi4 : ii + 4 ≤ Ls) {bw : Int32} {bd : Int32} {bu : Int32} {nt : Nat} {ns : Nat} {tw : Nat → Int32} {td : Nat → Int32} {sb : Nat → Int32} {sd : Nat → Int32} {su : Nat → Int32} {th : Int32} {n : Nat} {nr : Nat} {nf : Nat} {xa : Nat → Int32} {xf : Nat → Int32} {xw : Nat → Int32} {xd : Nat → Int32} (hsX : sX k a w ) (hsM : sM k a w bw bd bu nt ns tw td sb sd su) (hsD : sD k a w th n nr nf bw bd nt) (hsDM : sDM k a w xa xf xw xd) (x : Int32) (y : Int32) (h_1 : xs (ii + 1) = x) (h_2 : xs (ii + 2) = y) (hnt : nt = 40) (hnD : nt = 40) {H : Heap} {locs : List Loc} {ls : Array Slot} (hG : gW D a w H) (hS : va_S (gF B0) s.heap H locs) (hl : lv_has ls 8 [(0, .ref b), (1, .ref (a 0)), (2, .ref (a 22)), (3, .ref (a 21)), (4, .int (nI ii))]) {cs ss : Nat} (hcs : cs + 1 ≤ 1087) (hss : ss + 6 ≤ 9297)
 (kk : ∀ (w' : Nat → va_E) (H' : Heap) (locs' : List Loc) (ls' : Array Slot) , sX k a w' → sM k a w' bw bd bu nt ns tw td sb sd su → sD k a w' 1 n nr nf bw bd nt → sDM k a w' xa xf xw xd → (∀ z, ((z < 34 ∨ 37 < z) ∧ z ≠ 22) → w' z = w z) → gW D a w' H' → va_S (gF B0) s.heap H' locs' → lv_has ls' 8 [(0, .ref b), (1, .ref (a 0)), (2, .ref (a 22)), (3, .ref (a 21)), (4, .int (nI ii))] → W p l e room_1 s m args below meth c H' locs' (cs + 1) (ss + 6) Q (F0 m 1235 ls' [])) : W p l e room_1 s m args below meth c H locs cs ss Q (F0 m 1099 ls []) := by
  have hsX0 := hsX
  obtain ⟨hsM15, hsM16, hsM17, hsM18, hsM19, hsM20⟩ := hsM
  have hsD22 := hsD
  obtain ⟨hsDM34, hsDM35, hsDM36, hsDM37⟩ := hsDM
  refine lv_aload_n hx hb dL_law_1099 rfl (lv_at hl 1 rfl) ?_
  refine lv_aload_n hx hb dL_law_1100 rfl (lv_at hl 0 rfl) ?_
  refine lv_iload hx hb dL_law_1101 (lv_at hl 4 rfl) ?_
  refine lv_iconst (v := 1) hx hb dL_law_1103 (by decide) ?_
  refine ln_iadd (x := ii) (y := 1) hx hb dL_law_1104 ?_
  refine l_sld (v := x) hx hb hX hbl hbA hS (j := ii + 1) (by omega) (by omega) h_1 dL_law_1105 ?_
  refine lv_aload_n hx hb dL_law_1106 rfl (lv_at hl 0 rfl) ?_
  refine lv_iload hx hb dL_law_1107 (lv_at hl 4 rfl) ?_
  refine lv_iconst (v := 2) hx hb dL_law_1109 (by decide) ?_
  refine ln_iadd (x := ii) (y := 2) hx hb dL_law_1110 ?_
  refine l_sld (v := y) hx hb hX hbl hbA hS (j := ii + 2) (by omega) (by omega) h_2 dL_law_1111 ?_
  refine lv_aload_n hx hb dL_law_1112 rfl (lv_at hl 3 rfl) ?_
  refine y_Si (As := [.ref (a 0), .int x, .int y, .ref (a 21)]) (rest := []) (kL_pack_f hl9 hA hsX0 ⟨hsM15, hsM16, hsM17, hsM18, hsM19, hsM20⟩ x y hnt) calL_pack mlL_144 hx hb hml hown hts hB hG hK hS hXS ⟨by decide, by decide⟩ rfl hl.1 rfl (Nat.le_of_ble_eq_true rfl) dL_law_1113 ⟨by show cs + 1 ≤ 1087; omega, by show ss + 6 ≤ 9297; omega⟩ (fun H locs hG hS => ?_)
  refine lv_istore (lv' := [(5, .int 1), (0, .ref b), (1, .ref (a 0)), (2, .ref (a 22)), (3, .ref (a 21)), (4, .int (nI ii))]) hx hb dL_law_1116 hl (by decide) rfl (fun ls hl => ?_)
  refine lv_aload_n hx hb dL_law_1118 rfl (lv_at hl 3 rfl) ?_
  refine lv_aload_n hx hb dL_law_1119 rfl (lv_at hl 1 rfl) ?_
  refine lv_iload hx hb dL_law_1120 (lv_at hl 5 rfl) ?_
  refine lv_iconst (v := 1) hx hb dL_law_1122 (by decide) ?_
  refine ln_iadd (x := ii) (y := 1) hx hb dL_law_1123 ?_
  refine l_sld (v := x) hx hb hX hbl hbA hS (j := ii + 1) (by omega) (by omega) h_1 dL_law_1124 ?_
  refine lv_aload_n hx hb dL_law_1125 rfl (lv_at hl 1 rfl) ?_
  refine lv_iload hx hb dL_law_1126 (lv_at hl 5 rfl) ?_
  refine lv_iconst (v := 2) hx hb dL_law_1128 (by decide) ?_
  refine ln_iadd (x := ii) (y := 2) hx hb dL_law_1129 ?_
  refine l_sld (v := y) hx hb hX hbl hbA hS (j := ii + 2) (by omega) (by omega) h_2 dL_law_1130 ?_
  refine g_Vi (i := 22) (As := [.int x, .int y]) (rest := []) (kD_pack_f hA hsD22 ⟨hsDM34, hsDM35, hsDM36, hsDM37⟩ x y hnD) calD_pack cvD_pack mlL_146 hx hb hml hown hts hB hG hK hS (by decide) hsD22 rfl ⟨by decide, by decide⟩ rfl hl.1 rfl (Nat.le_of_ble_eq_true rfl) dL_law_1131 ⟨by show cs + 1 + 0 ≤ 1087; omega, by show ss + 6 + 0 ≤ 9297; omega⟩ (fun r1 w2 H locs hp3 hG hS => ?_)
  obtain ⟨er9, h4, ⟨h5, h6, h7, h8⟩, hfr10⟩ := hp3
  have h11 : w2 0 = .inr (0, [.ref (a 1), .ref (a 9), .ref (a 12), .ref (a 15)]) := (hfr10 0 (by omega)).trans hsX0
  have h12 : w2 15 = .inr (4, [.ref (a 16), .ref (a 17), .ref (a 18), .ref (a 19), .ref (a 20), .int bw, .int bd, .int bu, .int (nI nt), .int (nI ns)]) := (hfr10 15 (by omega)).trans hsM15
  have h13 : w2 16 = .inl (k.1, 40, .inl tw) := (hfr10 16 (by omega)).trans hsM16
  have h14 : w2 17 = .inl (k.1, 40, .inl td) := (hfr10 17 (by omega)).trans hsM17
  have h15 : w2 18 = .inl (k.1, 40, .inl sb) := (hfr10 18 (by omega)).trans hsM18
  have h16 : w2 19 = .inl (k.1, 40, .inl sd) := (hfr10 19 (by omega)).trans hsM19
  have h17 : w2 20 = .inl (k.1, 40, .inl su) := (hfr10 20 (by omega)).trans hsM20
  rw [er9]
  refine lv_istore (lv' := [(6, .int 0), (5, .int 1), (0, .ref b), (1, .ref (a 0)), (2, .ref (a 22)), (3, .ref (a 21)), (4, .int (nI ii))]) hx hb dL_law_1134 hl (by decide) rfl (fun ls hl => ?_)
  refine lv_aload_n hx hb dL_law_1136 rfl (lv_at hl 4 rfl) ?_
  refine g_ViR (i := 22) (As := []) (rest := []) (kD_thrown hA h4) calD_thrown cvD_thrown mlL_89 hx hb hml hown hts hB hG hK hS (by decide) h4 rfl ⟨by decide, by decide⟩ rfl hl.1 rfl (Nat.le_of_ble_eq_true rfl) dL_law_1137 ⟨by show cs + 1 + 0 + 0 ≤ 1087; omega, by show ss + 6 + 0 + 0 ≤ 9297; omega⟩ (fun H locs hG hS => ?_)
  refine lv_iload hx hb dL_law_1140 (lv_at hl 1 rfl) ?_
  refine lv_icmp_eq (tgt := 1147) hx hb dL_law_1142 (by decide) (fun _ => ?_) (fun h9 => absurd h9 (by decide))
  refine lv_iload hx hb dL_law_1147 (lv_at hl 1 rfl) ?_
  refine lv_if_ne (tgt := 1164) hx hb dL_law_1149 (by decide) (fun _ => ?_) (fun h9 => absurd h9 (by decide))
  refine lv_goto (tgt := 1235) hx hb dL_law_1164 (by decide) ?_
  exact kk _ _ _ _  h11 ⟨h12, h13, h14, h15, h16, h17⟩ h4 ⟨h5, h6, h7, h8⟩  hfr10 hG hS (lv_sub hl [2, 3, 4, 5, 6] rfl)

set_option maxRecDepth 100000 in
set_option maxHeartbeats 4000000 in
theorem st_pack_z {p : Program} {l : Launch} {e : Env} {s : State} {m : MethodId} {args : Array Value} {below : List Frame} {meth : Method} {c : Code} {Q : State → Prop} (hl9 : l.stackTraces = false) {D : va_G} {k : ClassId × ClassId × ClassId} {a : Nat → Nat} {B0 : Nat} {w : Nat → va_E} (hA : gA B0 a) (hx : p.tables.exec = Jvm.exec) (hb : c.code = cL_law) (hml : c.maxLocals = 8) (hown : s.vm.findClass RL = some m.cls) (hts : ∀ w ∈ TB, w.before args s = true) (hB : B0 ≤ s.heap.size) (hK : va_K D vwCl (gT k) s) (hXS : xS B0 s) {b Ls : Nat} {xs : Nat → Int32} (hX : va_X b Ls xs s s.heap) (hbl : b < s.heap.size) (hbA : ¬ gF B0 b) (hL9 : Ls ≤ 2048) {ii : Nat} (hi4 : ii + 4 ≤ Ls) {bw : Int32} {bd : Int32} {bu : Int32} {nt : Nat} {ns : Nat} {tw : Nat → Int32} {td : Nat → Int32} {sb : Nat → Int32} {sd : Nat → Int32} {su : Nat → Int32} {th : Int32} {n : Nat} {nr : Nat} {nf : Nat} {xa : Nat → Int32} {xf : Nat → Int32} {xw : Nat → Int32} {xd : Nat → Int32} (hsX : sX k a w ) (hsM : sM k a w bw bd bu nt ns tw td sb sd su) (hsD : sD k a w th n nr nf bw bd nt) (hsDM : sDM k a w xa xf xw xd) (x : Int32) (y : Int32) (h_1 : xs (ii + 1) = x) (h_2 : xs (ii + 2) = y) (hnt : nt < 40) (hz : ¬ (wdR x ∧ wdR y)) (hnD : nt < 40) (hzD : ¬ (wdR x ∧ wdR y)) {H : Heap} {locs : List Loc} {ls : Array Slot} (hG : gW D a w H) (hS : va_S (gF B0) s.heap H locs) (hl : lv_has ls 8 [(0, .ref b), (1, .ref (a 0)), (2, .ref (a 22)), (3, .ref (a 21)), (4, .int (nI ii))]) {cs ss : Nat} (hcs : cs + 1 ≤ 1087) (hss : ss + 6 ≤ 9297)
 (kk : ∀ (w' : Nat → va_E) (H' : Heap) (locs' : List Loc) (ls' : Array Slot) , sX k a w' → sM k a w' bw bd bu nt ns tw td sb sd su → sD k a w' 2 n nr nf bw bd nt → sDM k a w' xa xf xw xd → (∀ z, ((z < 34 ∨ 37 < z) ∧ z ≠ 22) → w' z = w z) → gW D a w' H' → va_S (gF B0) s.heap H' locs' → lv_has ls' 8 [(0, .ref b), (1, .ref (a 0)), (2, .ref (a 22)), (3, .ref (a 21)), (4, .int (nI ii))] → W p l e room_1 s m args below meth c H' locs' (cs + 1) (ss + 6) Q (F0 m 1235 ls' [])) : W p l e room_1 s m args below meth c H locs cs ss Q (F0 m 1099 ls []) := by
  have hsX0 := hsX
  obtain ⟨hsM15, hsM16, hsM17, hsM18, hsM19, hsM20⟩ := hsM
  have hsD22 := hsD
  obtain ⟨hsDM34, hsDM35, hsDM36, hsDM37⟩ := hsDM
  refine lv_aload_n hx hb dL_law_1099 rfl (lv_at hl 1 rfl) ?_
  refine lv_aload_n hx hb dL_law_1100 rfl (lv_at hl 0 rfl) ?_
  refine lv_iload hx hb dL_law_1101 (lv_at hl 4 rfl) ?_
  refine lv_iconst (v := 1) hx hb dL_law_1103 (by decide) ?_
  refine ln_iadd (x := ii) (y := 1) hx hb dL_law_1104 ?_
  refine l_sld (v := x) hx hb hX hbl hbA hS (j := ii + 1) (by omega) (by omega) h_1 dL_law_1105 ?_
  refine lv_aload_n hx hb dL_law_1106 rfl (lv_at hl 0 rfl) ?_
  refine lv_iload hx hb dL_law_1107 (lv_at hl 4 rfl) ?_
  refine lv_iconst (v := 2) hx hb dL_law_1109 (by decide) ?_
  refine ln_iadd (x := ii) (y := 2) hx hb dL_law_1110 ?_
  refine l_sld (v := y) hx hb hX hbl hbA hS (j := ii + 2) (by omega) (by omega) h_2 dL_law_1111 ?_
  refine lv_aload_n hx hb dL_law_1112 rfl (lv_at hl 3 rfl) ?_
  refine y_Si (As := [.ref (a 0), .int x, .int y, .ref (a 21)]) (rest := []) (kL_pack_z hl9 hA hsX0 ⟨hsM15, hsM16, hsM17, hsM18, hsM19, hsM20⟩ x y hnt hz) calL_pack mlL_144 hx hb hml hown hts hB hG hK hS hXS ⟨by decide, by decide⟩ rfl hl.1 rfl (Nat.le_of_ble_eq_true rfl) dL_law_1113 ⟨by show cs + 1 ≤ 1087; omega, by show ss + 6 ≤ 9297; omega⟩ (fun H locs hG hS => ?_)
  refine lv_istore (lv' := [(5, .int 2), (0, .ref b), (1, .ref (a 0)), (2, .ref (a 22)), (3, .ref (a 21)), (4, .int (nI ii))]) hx hb dL_law_1116 hl (by decide) rfl (fun ls hl => ?_)
  refine lv_aload_n hx hb dL_law_1118 rfl (lv_at hl 3 rfl) ?_
  refine lv_aload_n hx hb dL_law_1119 rfl (lv_at hl 1 rfl) ?_
  refine lv_iload hx hb dL_law_1120 (lv_at hl 5 rfl) ?_
  refine lv_iconst (v := 1) hx hb dL_law_1122 (by decide) ?_
  refine ln_iadd (x := ii) (y := 1) hx hb dL_law_1123 ?_
  refine l_sld (v := x) hx hb hX hbl hbA hS (j := ii + 1) (by omega) (by omega) h_1 dL_law_1124 ?_
  refine lv_aload_n hx hb dL_law_1125 rfl (lv_at hl 1 rfl) ?_
  refine lv_iload hx hb dL_law_1126 (lv_at hl 5 rfl) ?_
  refine lv_iconst (v := 2) hx hb dL_law_1128 (by decide) ?_
  refine ln_iadd (x := ii) (y := 2) hx hb dL_law_1129 ?_
  refine l_sld (v := y) hx hb hX hbl hbA hS (j := ii + 2) (by omega) (by omega) h_2 dL_law_1130 ?_
  refine g_Vi (i := 22) (As := [.int x, .int y]) (rest := []) (kD_pack_z hA hsD22 ⟨hsDM34, hsDM35, hsDM36, hsDM37⟩ x y hnD hzD) calD_pack cvD_pack mlL_146 hx hb hml hown hts hB hG hK hS (by decide) hsD22 rfl ⟨by decide, by decide⟩ rfl hl.1 rfl (Nat.le_of_ble_eq_true rfl) dL_law_1131 ⟨by show cs + 1 + 0 ≤ 1087; omega, by show ss + 6 + 0 ≤ 9297; omega⟩ (fun r1 w2 H locs hp3 hG hS => ?_)
  obtain ⟨er9, h4, ⟨h5, h6, h7, h8⟩, hfr10⟩ := hp3
  have h11 : w2 0 = .inr (0, [.ref (a 1), .ref (a 9), .ref (a 12), .ref (a 15)]) := (hfr10 0 (by omega)).trans hsX0
  have h12 : w2 15 = .inr (4, [.ref (a 16), .ref (a 17), .ref (a 18), .ref (a 19), .ref (a 20), .int bw, .int bd, .int bu, .int (nI nt), .int (nI ns)]) := (hfr10 15 (by omega)).trans hsM15
  have h13 : w2 16 = .inl (k.1, 40, .inl tw) := (hfr10 16 (by omega)).trans hsM16
  have h14 : w2 17 = .inl (k.1, 40, .inl td) := (hfr10 17 (by omega)).trans hsM17
  have h15 : w2 18 = .inl (k.1, 40, .inl sb) := (hfr10 18 (by omega)).trans hsM18
  have h16 : w2 19 = .inl (k.1, 40, .inl sd) := (hfr10 19 (by omega)).trans hsM19
  have h17 : w2 20 = .inl (k.1, 40, .inl su) := (hfr10 20 (by omega)).trans hsM20
  rw [er9]
  refine lv_istore (lv' := [(6, .int 0), (5, .int 2), (0, .ref b), (1, .ref (a 0)), (2, .ref (a 22)), (3, .ref (a 21)), (4, .int (nI ii))]) hx hb dL_law_1134 hl (by decide) rfl (fun ls hl => ?_)
  refine lv_aload_n hx hb dL_law_1136 rfl (lv_at hl 4 rfl) ?_
  refine g_ViR (i := 22) (As := []) (rest := []) (kD_thrown hA h4) calD_thrown cvD_thrown mlL_89 hx hb hml hown hts hB hG hK hS (by decide) h4 rfl ⟨by decide, by decide⟩ rfl hl.1 rfl (Nat.le_of_ble_eq_true rfl) dL_law_1137 ⟨by show cs + 1 + 0 + 0 ≤ 1087; omega, by show ss + 6 + 0 + 0 ≤ 9297; omega⟩ (fun H locs hG hS => ?_)
  refine lv_iload hx hb dL_law_1140 (lv_at hl 1 rfl) ?_
  refine lv_icmp_eq (tgt := 1147) hx hb dL_law_1142 (by decide) (fun _ => ?_) (fun h9 => absurd h9 (by decide))
  refine lv_iload hx hb dL_law_1147 (lv_at hl 1 rfl) ?_
  refine lv_if_ne (tgt := 1164) hx hb dL_law_1149 (by decide) (fun _ => ?_) (fun h9 => absurd h9 (by decide))
  refine lv_goto (tgt := 1235) hx hb dL_law_1164 (by decide) ?_
  exact kk _ _ _ _  h11 ⟨h12, h13, h14, h15, h16, h17⟩ h4 ⟨h5, h6, h7, h8⟩  hfr10 hG hS (lv_sub hl [2, 3, 4, 5, 6] rfl)

set_option maxRecDepth 100000 in
set_option maxHeartbeats 4000000 in
theorem st_pack_m {p : Program} {l : Launch} {e : Env} {s : State} {m : MethodId} {args : Array Value} {below : List Frame} {meth : Method} {c : Code} {Q : State → Prop} (hl9 : l.stackTraces = false) {D : va_G} {k : ClassId × ClassId × ClassId} {a : Nat → Nat} {B0 : Nat} {w : Nat → va_E} (hA : gA B0 a) (hx : p.tables.exec = Jvm.exec) (hb : c.code = cL_law) (hml : c.maxLocals = 8) (hown : s.vm.findClass RL = some m.cls) (hts : ∀ w ∈ TB, w.before args s = true) (hB : B0 ≤ s.heap.size) (hK : va_K D vwCl (gT k) s) (hXS : xS B0 s) {b Ls : Nat} {xs : Nat → Int32} (hX : va_X b Ls xs s s.heap) (hbl : b < s.heap.size) (hbA : ¬ gF B0 b) (hL9 : Ls ≤ 2048) {ii : Nat} (hi4 : ii + 4 ≤ Ls) {bw : Int32} {bd : Int32} {bu : Int32} {nt : Nat} {ns : Nat} {tw : Nat → Int32} {td : Nat → Int32} {sb : Nat → Int32} {sd : Nat → Int32} {su : Nat → Int32} {th : Int32} {n : Nat} {nr : Nat} {nf : Nat} {xa : Nat → Int32} {xf : Nat → Int32} {xw : Nat → Int32} {xd : Nat → Int32} (hsX : sX k a w ) (hsM : sM k a w bw bd bu nt ns tw td sb sd su) (hsD : sD k a w th n nr nf bw bd nt) (hsDM : sDM k a w xa xf xw xd) (x : Int32) (y : Int32) (h_1 : xs (ii + 1) = x) (h_2 : xs (ii + 2) = y) (hns : ns ≤ nt) (hnt : nt < 40) (h1 : wdR x) (h2 : wdR y) (hsh : shF bw bd bu ns sd su x y ns 0 = -1) (hnD : nt < 40) (h1D : wdR x) (h2D : wdR y) (hshD : fstF (mShP bw xa xf xw xd nt x y) nt 0 = -1) (hnoD : bw < x ∨ ¬ y ≤ bd - seF xa xf xd nt 0 0) {H : Heap} {locs : List Loc} {ls : Array Slot} (hG : gW D a w H) (hS : va_S (gF B0) s.heap H locs) (hl : lv_has ls 8 [(0, .ref b), (1, .ref (a 0)), (2, .ref (a 22)), (3, .ref (a 21)), (4, .int (nI ii))]) {cs ss : Nat} (hcs : cs + 1 ≤ 1087) (hss : ss + 6 ≤ 9297)
 (kk : ∀ (w' : Nat → va_E) (H' : Heap) (locs' : List Loc) (ls' : Array Slot) , sX k a w' → sM k a w' bw bd bu nt ns tw td sb sd su → sD k a w' 3 n nr nf bw bd nt → sDM k a w' xa xf xw xd → (∀ z, ((z < 34 ∨ 37 < z) ∧ z ≠ 22) → w' z = w z) → gW D a w' H' → va_S (gF B0) s.heap H' locs' → lv_has ls' 8 [(0, .ref b), (1, .ref (a 0)), (2, .ref (a 22)), (3, .ref (a 21)), (4, .int (nI ii))] → W p l e room_1 s m args below meth c H' locs' (cs + 1) (ss + 6) Q (F0 m 1235 ls' [])) : W p l e room_1 s m args below meth c H locs cs ss Q (F0 m 1099 ls []) := by
  have hsX0 := hsX
  obtain ⟨hsM15, hsM16, hsM17, hsM18, hsM19, hsM20⟩ := hsM
  have hsD22 := hsD
  obtain ⟨hsDM34, hsDM35, hsDM36, hsDM37⟩ := hsDM
  refine lv_aload_n hx hb dL_law_1099 rfl (lv_at hl 1 rfl) ?_
  refine lv_aload_n hx hb dL_law_1100 rfl (lv_at hl 0 rfl) ?_
  refine lv_iload hx hb dL_law_1101 (lv_at hl 4 rfl) ?_
  refine lv_iconst (v := 1) hx hb dL_law_1103 (by decide) ?_
  refine ln_iadd (x := ii) (y := 1) hx hb dL_law_1104 ?_
  refine l_sld (v := x) hx hb hX hbl hbA hS (j := ii + 1) (by omega) (by omega) h_1 dL_law_1105 ?_
  refine lv_aload_n hx hb dL_law_1106 rfl (lv_at hl 0 rfl) ?_
  refine lv_iload hx hb dL_law_1107 (lv_at hl 4 rfl) ?_
  refine lv_iconst (v := 2) hx hb dL_law_1109 (by decide) ?_
  refine ln_iadd (x := ii) (y := 2) hx hb dL_law_1110 ?_
  refine l_sld (v := y) hx hb hX hbl hbA hS (j := ii + 2) (by omega) (by omega) h_2 dL_law_1111 ?_
  refine lv_aload_n hx hb dL_law_1112 rfl (lv_at hl 3 rfl) ?_
  refine y_Si (As := [.ref (a 0), .int x, .int y, .ref (a 21)]) (rest := []) (kL_pack_m hl9 hA hsX0 ⟨hsM15, hsM16, hsM17, hsM18, hsM19, hsM20⟩ x y hns hnt h1 h2 hsh) calL_pack mlL_144 hx hb hml hown hts hB hG hK hS hXS ⟨by decide, by decide⟩ rfl hl.1 rfl (Nat.le_of_ble_eq_true rfl) dL_law_1113 ⟨by show cs + 1 ≤ 1087; omega, by show ss + 6 ≤ 9297; omega⟩ (fun H locs hG hS => ?_)
  refine lv_istore (lv' := [(5, .int 3), (0, .ref b), (1, .ref (a 0)), (2, .ref (a 22)), (3, .ref (a 21)), (4, .int (nI ii))]) hx hb dL_law_1116 hl (by decide) rfl (fun ls hl => ?_)
  refine lv_aload_n hx hb dL_law_1118 rfl (lv_at hl 3 rfl) ?_
  refine lv_aload_n hx hb dL_law_1119 rfl (lv_at hl 1 rfl) ?_
  refine lv_iload hx hb dL_law_1120 (lv_at hl 5 rfl) ?_
  refine lv_iconst (v := 1) hx hb dL_law_1122 (by decide) ?_
  refine ln_iadd (x := ii) (y := 1) hx hb dL_law_1123 ?_
  refine l_sld (v := x) hx hb hX hbl hbA hS (j := ii + 1) (by omega) (by omega) h_1 dL_law_1124 ?_
  refine lv_aload_n hx hb dL_law_1125 rfl (lv_at hl 1 rfl) ?_
  refine lv_iload hx hb dL_law_1126 (lv_at hl 5 rfl) ?_
  refine lv_iconst (v := 2) hx hb dL_law_1128 (by decide) ?_
  refine ln_iadd (x := ii) (y := 2) hx hb dL_law_1129 ?_
  refine l_sld (v := y) hx hb hX hbl hbA hS (j := ii + 2) (by omega) (by omega) h_2 dL_law_1130 ?_
  refine g_Vi (i := 22) (As := [.int x, .int y]) (rest := []) (kD_pack_m hA hsD22 ⟨hsDM34, hsDM35, hsDM36, hsDM37⟩ x y hnD h1D h2D hshD hnoD) calD_pack cvD_pack mlL_146 hx hb hml hown hts hB hG hK hS (by decide) hsD22 rfl ⟨by decide, by decide⟩ rfl hl.1 rfl (Nat.le_of_ble_eq_true rfl) dL_law_1131 ⟨by show cs + 1 + 0 ≤ 1087; omega, by show ss + 6 + 0 ≤ 9297; omega⟩ (fun r1 w2 H locs hp3 hG hS => ?_)
  obtain ⟨er9, h4, ⟨h5, h6, h7, h8⟩, hfr10⟩ := hp3
  have h11 : w2 0 = .inr (0, [.ref (a 1), .ref (a 9), .ref (a 12), .ref (a 15)]) := (hfr10 0 (by omega)).trans hsX0
  have h12 : w2 15 = .inr (4, [.ref (a 16), .ref (a 17), .ref (a 18), .ref (a 19), .ref (a 20), .int bw, .int bd, .int bu, .int (nI nt), .int (nI ns)]) := (hfr10 15 (by omega)).trans hsM15
  have h13 : w2 16 = .inl (k.1, 40, .inl tw) := (hfr10 16 (by omega)).trans hsM16
  have h14 : w2 17 = .inl (k.1, 40, .inl td) := (hfr10 17 (by omega)).trans hsM17
  have h15 : w2 18 = .inl (k.1, 40, .inl sb) := (hfr10 18 (by omega)).trans hsM18
  have h16 : w2 19 = .inl (k.1, 40, .inl sd) := (hfr10 19 (by omega)).trans hsM19
  have h17 : w2 20 = .inl (k.1, 40, .inl su) := (hfr10 20 (by omega)).trans hsM20
  rw [er9]
  refine lv_istore (lv' := [(6, .int 0), (5, .int 3), (0, .ref b), (1, .ref (a 0)), (2, .ref (a 22)), (3, .ref (a 21)), (4, .int (nI ii))]) hx hb dL_law_1134 hl (by decide) rfl (fun ls hl => ?_)
  refine lv_aload_n hx hb dL_law_1136 rfl (lv_at hl 4 rfl) ?_
  refine g_ViR (i := 22) (As := []) (rest := []) (kD_thrown hA h4) calD_thrown cvD_thrown mlL_89 hx hb hml hown hts hB hG hK hS (by decide) h4 rfl ⟨by decide, by decide⟩ rfl hl.1 rfl (Nat.le_of_ble_eq_true rfl) dL_law_1137 ⟨by show cs + 1 + 0 + 0 ≤ 1087; omega, by show ss + 6 + 0 + 0 ≤ 9297; omega⟩ (fun H locs hG hS => ?_)
  refine lv_iload hx hb dL_law_1140 (lv_at hl 1 rfl) ?_
  refine lv_icmp_eq (tgt := 1147) hx hb dL_law_1142 (by decide) (fun _ => ?_) (fun h9 => absurd h9 (by decide))
  refine lv_iload hx hb dL_law_1147 (lv_at hl 1 rfl) ?_
  refine lv_if_ne (tgt := 1164) hx hb dL_law_1149 (by decide) (fun _ => ?_) (fun h9 => absurd h9 (by decide))
  refine lv_goto (tgt := 1235) hx hb dL_law_1164 (by decide) ?_
  exact kk _ _ _ _  h11 ⟨h12, h13, h14, h15, h16, h17⟩ h4 ⟨h5, h6, h7, h8⟩  hfr10 hG hS (lv_sub hl [2, 3, 4, 5, 6] rfl)

set_option maxRecDepth 100000 in
set_option maxHeartbeats 4000000 in
theorem st_packed_k {p : Program} {l : Launch} {e : Env} {s : State} {m : MethodId} {args : Array Value} {below : List Frame} {meth : Method} {c : Code} {Q : State → Prop} (hl9 : l.stackTraces = false) {D : va_G} {k : ClassId × ClassId × ClassId} {a : Nat → Nat} {B0 : Nat} {w : Nat → va_E} (hA : gA B0 a) (hx : p.tables.exec = Jvm.exec) (hb : c.code = cL_law) (hml : c.maxLocals = 8) (hown : s.vm.findClass RL = some m.cls) (hts : ∀ w ∈ TB, w.before args s = true) (hB : B0 ≤ s.heap.size) (hK : va_K D vwCl (gT k) s) (hXS : xS B0 s) {b Ls : Nat} {xs : Nat → Int32} (hX : va_X b Ls xs s s.heap) (hbl : b < s.heap.size) (hbA : ¬ gF B0 b) (hL9 : Ls ≤ 2048) {ii : Nat} (hi4 : ii + 4 ≤ Ls) {bw : Int32} {bd : Int32} {bu : Int32} {nt : Nat} {ns : Nat} {tw : Nat → Int32} {td : Nat → Int32} {sb : Nat → Int32} {sd : Nat → Int32} {su : Nat → Int32} {oo : Nat → Int64} {th : Int32} {n : Nat} {nr : Nat} {nf : Nat} {xa : Nat → Int32} {xf : Nat → Int32} {xw : Nat → Int32} {xd : Nat → Int32} (hsX : sX k a w ) (hsM : sM k a w bw bd bu nt ns tw td sb sd su) (hsO : sO k a w oo) (hsD : sD k a w th n nr nf bw bd nt) (hsDM : sDM k a w xa xf xw xd) (j : Nat) (q : Int32) (h_1 : xs (ii + 1) = nI j) (h_2 : xs (ii + 2) = q) (hj : j < nt) (hn : nt ≤ 40) (hw : rngI q 0 1) (hjD : j < nt) (hnD : nt ≤ 40) (hwD : rngI q 0 1) (hval : (rPk tw td j q).toInt64 = (rPk xa xf j q).toInt64) {H : Heap} {locs : List Loc} {ls : Array Slot} (hG : gW D a w H) (hS : va_S (gF B0) s.heap H locs) (hl : lv_has ls 8 [(0, .ref b), (1, .ref (a 0)), (2, .ref (a 22)), (3, .ref (a 21)), (4, .int (nI ii))]) {cs ss : Nat} (hcs : cs + 1 ≤ 1087) (hss : ss + 6 ≤ 9297)
 (kk : ∀ (w' : Nat → va_E) (H' : Heap) (locs' : List Loc) (ls' : Array Slot) , sX k a w' → sM k a w' bw bd bu nt ns tw td sb sd su → sO k a w' (vp_updL oo 0 ((rPk tw td j q).toInt64)) → sD k a w' 0 n nr nf bw bd nt → sDM k a w' xa xf xw xd → (∀ z, (z < 21 ∨ 21 < z) ∧ ((z < 34 ∨ 37 < z) ∧ z ≠ 22) → w' z = w z) → gW D a w' H' → va_S (gF B0) s.heap H' locs' → lv_has ls' 8 [(0, .ref b), (1, .ref (a 0)), (2, .ref (a 22)), (3, .ref (a 21)), (4, .int (nI ii))] → W p l e room_1 s m args below meth c H' locs' (cs + 0) (ss + 0) Q (F0 m 1235 ls' [])) : W p l e room_1 s m args below meth c H locs cs ss Q (F0 m 1167 ls []) := by
  have hsX0 := hsX
  obtain ⟨hsM15, hsM16, hsM17, hsM18, hsM19, hsM20⟩ := hsM
  have hsO21 := hsO
  have hsD22 := hsD
  obtain ⟨hsDM34, hsDM35, hsDM36, hsDM37⟩ := hsDM
  refine lv_aload_n hx hb dL_law_1167 rfl (lv_at hl 1 rfl) ?_
  refine lv_aload_n hx hb dL_law_1168 rfl (lv_at hl 0 rfl) ?_
  refine lv_iload hx hb dL_law_1169 (lv_at hl 4 rfl) ?_
  refine lv_iconst (v := 1) hx hb dL_law_1171 (by decide) ?_
  refine ln_iadd (x := ii) (y := 1) hx hb dL_law_1172 ?_
  refine l_sld (v := nI j) hx hb hX hbl hbA hS (j := ii + 1) (by omega) (by omega) h_1 dL_law_1173 ?_
  refine lv_aload_n hx hb dL_law_1174 rfl (lv_at hl 0 rfl) ?_
  refine lv_iload hx hb dL_law_1175 (lv_at hl 4 rfl) ?_
  refine lv_iconst (v := 2) hx hb dL_law_1177 (by decide) ?_
  refine ln_iadd (x := ii) (y := 2) hx hb dL_law_1178 ?_
  refine l_sld (v := q) hx hb hX hbl hbA hS (j := ii + 2) (by omega) (by omega) h_2 dL_law_1179 ?_
  refine lv_aload_n hx hb dL_law_1180 rfl (lv_at hl 3 rfl) ?_
  refine h_Si (As := [.ref (a 0), .int (nI j), .int q, .ref (a 21)]) (rest := []) (kL_packed_k hA hsX0 ⟨hsM15, hsM16, hsM17, hsM18, hsM19, hsM20⟩ hsO21 j q hj hn hw) calL_packed mlL_147 hx hb hml hown hts hB hG hK hS ⟨by decide, by decide⟩ rfl hl.1 rfl (Nat.le_of_ble_eq_true rfl) dL_law_1181 ⟨by show cs + 0 ≤ 1087; omega, by show ss + 0 ≤ 9297; omega⟩ (fun r1 w2 H locs hp3 hG hS => ?_)
  obtain ⟨er5, h4, hfr6⟩ := hp3
  have h7 : w2 0 = .inr (0, [.ref (a 1), .ref (a 9), .ref (a 12), .ref (a 15)]) := (hfr6 0 (by omega)).trans hsX0
  have h8 : w2 15 = .inr (4, [.ref (a 16), .ref (a 17), .ref (a 18), .ref (a 19), .ref (a 20), .int bw, .int bd, .int bu, .int (nI nt), .int (nI ns)]) := (hfr6 15 (by omega)).trans hsM15
  have h9 : w2 16 = .inl (k.1, 40, .inl tw) := (hfr6 16 (by omega)).trans hsM16
  have h10 : w2 17 = .inl (k.1, 40, .inl td) := (hfr6 17 (by omega)).trans hsM17
  have h11 : w2 18 = .inl (k.1, 40, .inl sb) := (hfr6 18 (by omega)).trans hsM18
  have h12 : w2 19 = .inl (k.1, 40, .inl sd) := (hfr6 19 (by omega)).trans hsM19
  have h13 : w2 20 = .inl (k.1, 40, .inl su) := (hfr6 20 (by omega)).trans hsM20
  have h14 : w2 22 = .inr (5, [.int th, .int (nI n), .ref (a 23), .ref (a 24), .ref (a 25), .ref (a 26), .ref (a 27), .ref (a 28), .ref (a 29), .int (nI nr), .ref (a 30), .ref (a 31), .int (nI nf), .ref (a 32), .ref (a 33), .int bw, .int bd, .int (nI nt), .ref (a 34), .ref (a 35), .ref (a 36), .ref (a 37)]) := (hfr6 22 (by omega)).trans hsD22
  have h15 : w2 34 = .inl (k.1, 40, .inl xa) := (hfr6 34 (by omega)).trans hsDM34
  have h16 : w2 35 = .inl (k.1, 40, .inl xf) := (hfr6 35 (by omega)).trans hsDM35
  have h17 : w2 36 = .inl (k.1, 40, .inl xw) := (hfr6 36 (by omega)).trans hsDM36
  have h18 : w2 37 = .inl (k.1, 40, .inl xd) := (hfr6 37 (by omega)).trans hsDM37
  rw [er5]
  refine lv_istore (lv' := [(5, .int 0), (0, .ref b), (1, .ref (a 0)), (2, .ref (a 22)), (3, .ref (a 21)), (4, .int (nI ii))]) hx hb dL_law_1184 hl (by decide) rfl (fun ls hl => ?_)
  refine lv_aload_n hx hb dL_law_1186 rfl (lv_at hl 3 rfl) ?_
  refine lv_aload_n hx hb dL_law_1187 rfl (lv_at hl 1 rfl) ?_
  refine lv_iload hx hb dL_law_1188 (lv_at hl 5 rfl) ?_
  refine lv_iconst (v := 1) hx hb dL_law_1190 (by decide) ?_
  refine ln_iadd (x := ii) (y := 1) hx hb dL_law_1191 ?_
  refine l_sld (v := nI j) hx hb hX hbl hbA hS (j := ii + 1) (by omega) (by omega) h_1 dL_law_1192 ?_
  refine lv_aload_n hx hb dL_law_1193 rfl (lv_at hl 1 rfl) ?_
  refine lv_iload hx hb dL_law_1194 (lv_at hl 5 rfl) ?_
  refine lv_iconst (v := 2) hx hb dL_law_1196 (by decide) ?_
  refine ln_iadd (x := ii) (y := 2) hx hb dL_law_1197 ?_
  refine l_sld (v := q) hx hb hX hbl hbA hS (j := ii + 2) (by omega) (by omega) h_2 dL_law_1198 ?_
  refine g_Vi (i := 22) (As := [.int (nI j), .int q]) (rest := []) (kD_packed_k hA h14 ⟨h15, h16, h17, h18⟩ j q hjD hnD hwD) calD_packed cvD_packed mlL_149 hx hb hml hown hts hB hG hK hS (by decide) h14 rfl ⟨by decide, by decide⟩ rfl hl.1 rfl (Nat.le_of_ble_eq_true rfl) dL_law_1199 ⟨by show cs + 0 + 0 ≤ 1087; omega, by show ss + 0 + 0 ≤ 9297; omega⟩ (fun r19 w20 H locs hp21 hG hS => ?_)
  obtain ⟨er27, h22, ⟨h23, h24, h25, h26⟩, hfr28⟩ := hp21
  have h29 : w20 0 = .inr (0, [.ref (a 1), .ref (a 9), .ref (a 12), .ref (a 15)]) := (hfr28 0 (by omega)).trans h7
  have h30 : w20 15 = .inr (4, [.ref (a 16), .ref (a 17), .ref (a 18), .ref (a 19), .ref (a 20), .int bw, .int bd, .int bu, .int (nI nt), .int (nI ns)]) := (hfr28 15 (by omega)).trans h8
  have h31 : w20 16 = .inl (k.1, 40, .inl tw) := (hfr28 16 (by omega)).trans h9
  have h32 : w20 17 = .inl (k.1, 40, .inl td) := (hfr28 17 (by omega)).trans h10
  have h33 : w20 18 = .inl (k.1, 40, .inl sb) := (hfr28 18 (by omega)).trans h11
  have h34 : w20 19 = .inl (k.1, 40, .inl sd) := (hfr28 19 (by omega)).trans h12
  have h35 : w20 20 = .inl (k.1, 40, .inl su) := (hfr28 20 (by omega)).trans h13
  have h36 : w20 21 = .inl (k.2.1, 1, .inr (.inl (vp_updL oo 0 ((rPk tw td j q).toInt64)))) := (hfr28 21 (by omega)).trans h4
  rw [er27]
  refine lv_istore (lv' := [(6, .int (rPk xa xf j q)), (5, .int 0), (0, .ref b), (1, .ref (a 0)), (2, .ref (a 22)), (3, .ref (a 21)), (4, .int (nI ii))]) hx hb dL_law_1202 hl (by decide) rfl (fun ls hl => ?_)
  refine lv_aload_n hx hb dL_law_1204 rfl (lv_at hl 4 rfl) ?_
  refine g_ViR (i := 22) (As := []) (rest := []) (kD_thrown hA h22) calD_thrown cvD_thrown mlL_89 hx hb hml hown hts hB hG hK hS (by decide) h22 rfl ⟨by decide, by decide⟩ rfl hl.1 rfl (Nat.le_of_ble_eq_true rfl) dL_law_1205 ⟨by show cs + 0 + 0 + 0 ≤ 1087; omega, by show ss + 0 + 0 + 0 ≤ 9297; omega⟩ (fun H locs hG hS => ?_)
  refine lv_iload hx hb dL_law_1208 (lv_at hl 1 rfl) ?_
  refine lv_icmp_eq (tgt := 1215) hx hb dL_law_1210 (by decide) (fun _ => ?_) (fun h9 => absurd h9 (by decide))
  refine lv_iload hx hb dL_law_1215 (lv_at hl 1 rfl) ?_
  refine lv_if_ne (tgt := 1232) hx hb dL_law_1217 (by decide) (fun h9 => absurd h9 (by decide)) (fun _ => ?_)
  refine lv_aload_n hx hb dL_law_1220 rfl (lv_at hl 5 rfl) ?_
  refine lv_iconst (v := 0) hx hb dL_law_1221 (by decide) ?_
  refine g_lald hx hb hK hG 21 (by decide) h36 (j := 0) (by omega) (by decide) dL_law_1222 ?_
  refine lv_iload hx hb dL_law_1223 (lv_at hl 0 rfl) ?_
  refine lv_i2l hx hb dL_law_1225 rfl ?_
  refine W.lcmp hx hb dL_law_1226 ?_
  refine lc_if_eq (tgt := 1232) hx hb dL_law_1227 (by decide) (fun c39 => ?_) (fun c39 => (absurd (pk_uLs.trans hval) c39))
  refine lv_goto (tgt := 1235) hx hb dL_law_1232 (by decide) ?_
  exact kk _ _ _ _  h29 ⟨h30, h31, h32, h33, h34, h35⟩ h36 h22 ⟨h23, h24, h25, h26⟩  (fun z hz => (hfr28 z hz.2).trans (hfr6 z hz.1)) hG hS (lv_sub hl [2, 3, 4, 5, 6] rfl)

set_option maxRecDepth 100000 in
set_option maxHeartbeats 4000000 in
theorem st_packed_p {p : Program} {l : Launch} {e : Env} {s : State} {m : MethodId} {args : Array Value} {below : List Frame} {meth : Method} {c : Code} {Q : State → Prop} (hl9 : l.stackTraces = false) {D : va_G} {k : ClassId × ClassId × ClassId} {a : Nat → Nat} {B0 : Nat} {w : Nat → va_E} (hA : gA B0 a) (hx : p.tables.exec = Jvm.exec) (hb : c.code = cL_law) (hml : c.maxLocals = 8) (hown : s.vm.findClass RL = some m.cls) (hts : ∀ w ∈ TB, w.before args s = true) (hB : B0 ≤ s.heap.size) (hK : va_K D vwCl (gT k) s) (hXS : xS B0 s) {b Ls : Nat} {xs : Nat → Int32} (hX : va_X b Ls xs s s.heap) (hbl : b < s.heap.size) (hbA : ¬ gF B0 b) (hL9 : Ls ≤ 2048) {ii : Nat} (hi4 : ii + 4 ≤ Ls) {bw : Int32} {bd : Int32} {bu : Int32} {nt : Nat} {ns : Nat} {tw : Nat → Int32} {td : Nat → Int32} {sb : Nat → Int32} {sd : Nat → Int32} {su : Nat → Int32} {th : Int32} {n : Nat} {nr : Nat} {nf : Nat} {xa : Nat → Int32} {xf : Nat → Int32} {xw : Nat → Int32} {xd : Nat → Int32} (hsX : sX k a w ) (hsM : sM k a w bw bd bu nt ns tw td sb sd su) (hsD : sD k a w th n nr nf bw bd nt) (hsDM : sDM k a w xa xf xw xd) (q : Int32) (r : Int32) (h_1 : xs (ii + 1) = q) (h_2 : xs (ii + 2) = r) (hq : ¬ (¬ q < 0 ∧ ¬ nI nt ≤ q)) (hqD : ¬ rngI q 0 ((nI nt) - 1)) {H : Heap} {locs : List Loc} {ls : Array Slot} (hG : gW D a w H) (hS : va_S (gF B0) s.heap H locs) (hl : lv_has ls 8 [(0, .ref b), (1, .ref (a 0)), (2, .ref (a 22)), (3, .ref (a 21)), (4, .int (nI ii))]) {cs ss : Nat} (hcs : cs + 1 ≤ 1087) (hss : ss + 6 ≤ 9297)
 (kk : ∀ (w' : Nat → va_E) (H' : Heap) (locs' : List Loc) (ls' : Array Slot) , sX k a w' → sM k a w' bw bd bu nt ns tw td sb sd su → sD k a w' 1 n nr nf bw bd nt → sDM k a w' xa xf xw xd → (∀ z, ((z < 34 ∨ 37 < z) ∧ z ≠ 22) → w' z = w z) → gW D a w' H' → va_S (gF B0) s.heap H' locs' → lv_has ls' 8 [(0, .ref b), (1, .ref (a 0)), (2, .ref (a 22)), (3, .ref (a 21)), (4, .int (nI ii))] → W p l e room_1 s m args below meth c H' locs' (cs + 1) (ss + 6) Q (F0 m 1235 ls' [])) : W p l e room_1 s m args below meth c H locs cs ss Q (F0 m 1167 ls []) := by
  have hsX0 := hsX
  obtain ⟨hsM15, hsM16, hsM17, hsM18, hsM19, hsM20⟩ := hsM
  have hsD22 := hsD
  obtain ⟨hsDM34, hsDM35, hsDM36, hsDM37⟩ := hsDM
  refine lv_aload_n hx hb dL_law_1167 rfl (lv_at hl 1 rfl) ?_
  refine lv_aload_n hx hb dL_law_1168 rfl (lv_at hl 0 rfl) ?_
  refine lv_iload hx hb dL_law_1169 (lv_at hl 4 rfl) ?_
  refine lv_iconst (v := 1) hx hb dL_law_1171 (by decide) ?_
  refine ln_iadd (x := ii) (y := 1) hx hb dL_law_1172 ?_
  refine l_sld (v := q) hx hb hX hbl hbA hS (j := ii + 1) (by omega) (by omega) h_1 dL_law_1173 ?_
  refine lv_aload_n hx hb dL_law_1174 rfl (lv_at hl 0 rfl) ?_
  refine lv_iload hx hb dL_law_1175 (lv_at hl 4 rfl) ?_
  refine lv_iconst (v := 2) hx hb dL_law_1177 (by decide) ?_
  refine ln_iadd (x := ii) (y := 2) hx hb dL_law_1178 ?_
  refine l_sld (v := r) hx hb hX hbl hbA hS (j := ii + 2) (by omega) (by omega) h_2 dL_law_1179 ?_
  refine lv_aload_n hx hb dL_law_1180 rfl (lv_at hl 3 rfl) ?_
  refine y_Si (As := [.ref (a 0), .int q, .int r, .ref (a 21)]) (rest := []) (kL_packed_p hl9 hA hsX0 ⟨hsM15, hsM16, hsM17, hsM18, hsM19, hsM20⟩ q r hq) calL_packed mlL_147 hx hb hml hown hts hB hG hK hS hXS ⟨by decide, by decide⟩ rfl hl.1 rfl (Nat.le_of_ble_eq_true rfl) dL_law_1181 ⟨by show cs + 1 ≤ 1087; omega, by show ss + 6 ≤ 9297; omega⟩ (fun H locs hG hS => ?_)
  refine lv_istore (lv' := [(5, .int 1), (0, .ref b), (1, .ref (a 0)), (2, .ref (a 22)), (3, .ref (a 21)), (4, .int (nI ii))]) hx hb dL_law_1184 hl (by decide) rfl (fun ls hl => ?_)
  refine lv_aload_n hx hb dL_law_1186 rfl (lv_at hl 3 rfl) ?_
  refine lv_aload_n hx hb dL_law_1187 rfl (lv_at hl 1 rfl) ?_
  refine lv_iload hx hb dL_law_1188 (lv_at hl 5 rfl) ?_
  refine lv_iconst (v := 1) hx hb dL_law_1190 (by decide) ?_
  refine ln_iadd (x := ii) (y := 1) hx hb dL_law_1191 ?_
  refine l_sld (v := q) hx hb hX hbl hbA hS (j := ii + 1) (by omega) (by omega) h_1 dL_law_1192 ?_
  refine lv_aload_n hx hb dL_law_1193 rfl (lv_at hl 1 rfl) ?_
  refine lv_iload hx hb dL_law_1194 (lv_at hl 5 rfl) ?_
  refine lv_iconst (v := 2) hx hb dL_law_1196 (by decide) ?_
  refine ln_iadd (x := ii) (y := 2) hx hb dL_law_1197 ?_
  refine l_sld (v := r) hx hb hX hbl hbA hS (j := ii + 2) (by omega) (by omega) h_2 dL_law_1198 ?_
  refine g_Vi (i := 22) (As := [.int q, .int r]) (rest := []) (kD_packed_p hA hsD22 ⟨hsDM34, hsDM35, hsDM36, hsDM37⟩ q r hqD) calD_packed cvD_packed mlL_149 hx hb hml hown hts hB hG hK hS (by decide) hsD22 rfl ⟨by decide, by decide⟩ rfl hl.1 rfl (Nat.le_of_ble_eq_true rfl) dL_law_1199 ⟨by show cs + 1 + 0 ≤ 1087; omega, by show ss + 6 + 0 ≤ 9297; omega⟩ (fun r1 w2 H locs hp3 hG hS => ?_)
  obtain ⟨er9, h4, ⟨h5, h6, h7, h8⟩, hfr10⟩ := hp3
  have h11 : w2 0 = .inr (0, [.ref (a 1), .ref (a 9), .ref (a 12), .ref (a 15)]) := (hfr10 0 (by omega)).trans hsX0
  have h12 : w2 15 = .inr (4, [.ref (a 16), .ref (a 17), .ref (a 18), .ref (a 19), .ref (a 20), .int bw, .int bd, .int bu, .int (nI nt), .int (nI ns)]) := (hfr10 15 (by omega)).trans hsM15
  have h13 : w2 16 = .inl (k.1, 40, .inl tw) := (hfr10 16 (by omega)).trans hsM16
  have h14 : w2 17 = .inl (k.1, 40, .inl td) := (hfr10 17 (by omega)).trans hsM17
  have h15 : w2 18 = .inl (k.1, 40, .inl sb) := (hfr10 18 (by omega)).trans hsM18
  have h16 : w2 19 = .inl (k.1, 40, .inl sd) := (hfr10 19 (by omega)).trans hsM19
  have h17 : w2 20 = .inl (k.1, 40, .inl su) := (hfr10 20 (by omega)).trans hsM20
  rw [er9]
  refine lv_istore (lv' := [(6, .int 0), (5, .int 1), (0, .ref b), (1, .ref (a 0)), (2, .ref (a 22)), (3, .ref (a 21)), (4, .int (nI ii))]) hx hb dL_law_1202 hl (by decide) rfl (fun ls hl => ?_)
  refine lv_aload_n hx hb dL_law_1204 rfl (lv_at hl 4 rfl) ?_
  refine g_ViR (i := 22) (As := []) (rest := []) (kD_thrown hA h4) calD_thrown cvD_thrown mlL_89 hx hb hml hown hts hB hG hK hS (by decide) h4 rfl ⟨by decide, by decide⟩ rfl hl.1 rfl (Nat.le_of_ble_eq_true rfl) dL_law_1205 ⟨by show cs + 1 + 0 + 0 ≤ 1087; omega, by show ss + 6 + 0 + 0 ≤ 9297; omega⟩ (fun H locs hG hS => ?_)
  refine lv_iload hx hb dL_law_1208 (lv_at hl 1 rfl) ?_
  refine lv_icmp_eq (tgt := 1215) hx hb dL_law_1210 (by decide) (fun _ => ?_) (fun h9 => absurd h9 (by decide))
  refine lv_iload hx hb dL_law_1215 (lv_at hl 1 rfl) ?_
  refine lv_if_ne (tgt := 1232) hx hb dL_law_1217 (by decide) (fun _ => ?_) (fun h9 => absurd h9 (by decide))
  refine lv_goto (tgt := 1235) hx hb dL_law_1232 (by decide) ?_
  exact kk _ _ _ _  h11 ⟨h12, h13, h14, h15, h16, h17⟩ h4 ⟨h5, h6, h7, h8⟩  hfr10 hG hS (lv_sub hl [2, 3, 4, 5, 6] rfl)

set_option maxRecDepth 100000 in
set_option maxHeartbeats 4000000 in
theorem st_packed_w {p : Program} {l : Launch} {e : Env} {s : State} {m : MethodId} {args : Array Value} {below : List Frame} {meth : Method} {c : Code} {Q : State → Prop} (hl9 : l.stackTraces = false) {D : va_G} {k : ClassId × ClassId × ClassId} {a : Nat → Nat} {B0 : Nat} {w : Nat → va_E} (hA : gA B0 a) (hx : p.tables.exec = Jvm.exec) (hb : c.code = cL_law) (hml : c.maxLocals = 8) (hown : s.vm.findClass RL = some m.cls) (hts : ∀ w ∈ TB, w.before args s = true) (hB : B0 ≤ s.heap.size) (hK : va_K D vwCl (gT k) s) (hXS : xS B0 s) {b Ls : Nat} {xs : Nat → Int32} (hX : va_X b Ls xs s s.heap) (hbl : b < s.heap.size) (hbA : ¬ gF B0 b) (hL9 : Ls ≤ 2048) {ii : Nat} (hi4 : ii + 4 ≤ Ls) {bw : Int32} {bd : Int32} {bu : Int32} {nt : Nat} {ns : Nat} {tw : Nat → Int32} {td : Nat → Int32} {sb : Nat → Int32} {sd : Nat → Int32} {su : Nat → Int32} {th : Int32} {n : Nat} {nr : Nat} {nf : Nat} {xa : Nat → Int32} {xf : Nat → Int32} {xw : Nat → Int32} {xd : Nat → Int32} (hsX : sX k a w ) (hsM : sM k a w bw bd bu nt ns tw td sb sd su) (hsD : sD k a w th n nr nf bw bd nt) (hsDM : sDM k a w xa xf xw xd) (j : Nat) (r : Int32) (h_1 : xs (ii + 1) = nI j) (h_2 : xs (ii + 2) = r) (hj : j < nt) (hn : nt ≤ 40) (hw : ¬ rngI r 0 1) (hjD : j < nt) (hnD : nt ≤ 40) (hwD : ¬ rngI r 0 1) {H : Heap} {locs : List Loc} {ls : Array Slot} (hG : gW D a w H) (hS : va_S (gF B0) s.heap H locs) (hl : lv_has ls 8 [(0, .ref b), (1, .ref (a 0)), (2, .ref (a 22)), (3, .ref (a 21)), (4, .int (nI ii))]) {cs ss : Nat} (hcs : cs + 1 ≤ 1087) (hss : ss + 6 ≤ 9297)
 (kk : ∀ (w' : Nat → va_E) (H' : Heap) (locs' : List Loc) (ls' : Array Slot) , sX k a w' → sM k a w' bw bd bu nt ns tw td sb sd su → sD k a w' 1 n nr nf bw bd nt → sDM k a w' xa xf xw xd → (∀ z, ((z < 34 ∨ 37 < z) ∧ z ≠ 22) → w' z = w z) → gW D a w' H' → va_S (gF B0) s.heap H' locs' → lv_has ls' 8 [(0, .ref b), (1, .ref (a 0)), (2, .ref (a 22)), (3, .ref (a 21)), (4, .int (nI ii))] → W p l e room_1 s m args below meth c H' locs' (cs + 1) (ss + 6) Q (F0 m 1235 ls' [])) : W p l e room_1 s m args below meth c H locs cs ss Q (F0 m 1167 ls []) := by
  have hsX0 := hsX
  obtain ⟨hsM15, hsM16, hsM17, hsM18, hsM19, hsM20⟩ := hsM
  have hsD22 := hsD
  obtain ⟨hsDM34, hsDM35, hsDM36, hsDM37⟩ := hsDM
  refine lv_aload_n hx hb dL_law_1167 rfl (lv_at hl 1 rfl) ?_
  refine lv_aload_n hx hb dL_law_1168 rfl (lv_at hl 0 rfl) ?_
  refine lv_iload hx hb dL_law_1169 (lv_at hl 4 rfl) ?_
  refine lv_iconst (v := 1) hx hb dL_law_1171 (by decide) ?_
  refine ln_iadd (x := ii) (y := 1) hx hb dL_law_1172 ?_
  refine l_sld (v := nI j) hx hb hX hbl hbA hS (j := ii + 1) (by omega) (by omega) h_1 dL_law_1173 ?_
  refine lv_aload_n hx hb dL_law_1174 rfl (lv_at hl 0 rfl) ?_
  refine lv_iload hx hb dL_law_1175 (lv_at hl 4 rfl) ?_
  refine lv_iconst (v := 2) hx hb dL_law_1177 (by decide) ?_
  refine ln_iadd (x := ii) (y := 2) hx hb dL_law_1178 ?_
  refine l_sld (v := r) hx hb hX hbl hbA hS (j := ii + 2) (by omega) (by omega) h_2 dL_law_1179 ?_
  refine lv_aload_n hx hb dL_law_1180 rfl (lv_at hl 3 rfl) ?_
  refine y_Si (As := [.ref (a 0), .int (nI j), .int r, .ref (a 21)]) (rest := []) (kL_packed_w hl9 hA hsX0 ⟨hsM15, hsM16, hsM17, hsM18, hsM19, hsM20⟩ j r hj hn hw) calL_packed mlL_147 hx hb hml hown hts hB hG hK hS hXS ⟨by decide, by decide⟩ rfl hl.1 rfl (Nat.le_of_ble_eq_true rfl) dL_law_1181 ⟨by show cs + 1 ≤ 1087; omega, by show ss + 6 ≤ 9297; omega⟩ (fun H locs hG hS => ?_)
  refine lv_istore (lv' := [(5, .int 1), (0, .ref b), (1, .ref (a 0)), (2, .ref (a 22)), (3, .ref (a 21)), (4, .int (nI ii))]) hx hb dL_law_1184 hl (by decide) rfl (fun ls hl => ?_)
  refine lv_aload_n hx hb dL_law_1186 rfl (lv_at hl 3 rfl) ?_
  refine lv_aload_n hx hb dL_law_1187 rfl (lv_at hl 1 rfl) ?_
  refine lv_iload hx hb dL_law_1188 (lv_at hl 5 rfl) ?_
  refine lv_iconst (v := 1) hx hb dL_law_1190 (by decide) ?_
  refine ln_iadd (x := ii) (y := 1) hx hb dL_law_1191 ?_
  refine l_sld (v := nI j) hx hb hX hbl hbA hS (j := ii + 1) (by omega) (by omega) h_1 dL_law_1192 ?_
  refine lv_aload_n hx hb dL_law_1193 rfl (lv_at hl 1 rfl) ?_
  refine lv_iload hx hb dL_law_1194 (lv_at hl 5 rfl) ?_
  refine lv_iconst (v := 2) hx hb dL_law_1196 (by decide) ?_
  refine ln_iadd (x := ii) (y := 2) hx hb dL_law_1197 ?_
  refine l_sld (v := r) hx hb hX hbl hbA hS (j := ii + 2) (by omega) (by omega) h_2 dL_law_1198 ?_
  refine g_Vi (i := 22) (As := [.int (nI j), .int r]) (rest := []) (kD_packed_w hA hsD22 ⟨hsDM34, hsDM35, hsDM36, hsDM37⟩ j r hjD hnD hwD) calD_packed cvD_packed mlL_149 hx hb hml hown hts hB hG hK hS (by decide) hsD22 rfl ⟨by decide, by decide⟩ rfl hl.1 rfl (Nat.le_of_ble_eq_true rfl) dL_law_1199 ⟨by show cs + 1 + 0 ≤ 1087; omega, by show ss + 6 + 0 ≤ 9297; omega⟩ (fun r1 w2 H locs hp3 hG hS => ?_)
  obtain ⟨er9, h4, ⟨h5, h6, h7, h8⟩, hfr10⟩ := hp3
  have h11 : w2 0 = .inr (0, [.ref (a 1), .ref (a 9), .ref (a 12), .ref (a 15)]) := (hfr10 0 (by omega)).trans hsX0
  have h12 : w2 15 = .inr (4, [.ref (a 16), .ref (a 17), .ref (a 18), .ref (a 19), .ref (a 20), .int bw, .int bd, .int bu, .int (nI nt), .int (nI ns)]) := (hfr10 15 (by omega)).trans hsM15
  have h13 : w2 16 = .inl (k.1, 40, .inl tw) := (hfr10 16 (by omega)).trans hsM16
  have h14 : w2 17 = .inl (k.1, 40, .inl td) := (hfr10 17 (by omega)).trans hsM17
  have h15 : w2 18 = .inl (k.1, 40, .inl sb) := (hfr10 18 (by omega)).trans hsM18
  have h16 : w2 19 = .inl (k.1, 40, .inl sd) := (hfr10 19 (by omega)).trans hsM19
  have h17 : w2 20 = .inl (k.1, 40, .inl su) := (hfr10 20 (by omega)).trans hsM20
  rw [er9]
  refine lv_istore (lv' := [(6, .int 0), (5, .int 1), (0, .ref b), (1, .ref (a 0)), (2, .ref (a 22)), (3, .ref (a 21)), (4, .int (nI ii))]) hx hb dL_law_1202 hl (by decide) rfl (fun ls hl => ?_)
  refine lv_aload_n hx hb dL_law_1204 rfl (lv_at hl 4 rfl) ?_
  refine g_ViR (i := 22) (As := []) (rest := []) (kD_thrown hA h4) calD_thrown cvD_thrown mlL_89 hx hb hml hown hts hB hG hK hS (by decide) h4 rfl ⟨by decide, by decide⟩ rfl hl.1 rfl (Nat.le_of_ble_eq_true rfl) dL_law_1205 ⟨by show cs + 1 + 0 + 0 ≤ 1087; omega, by show ss + 6 + 0 + 0 ≤ 9297; omega⟩ (fun H locs hG hS => ?_)
  refine lv_iload hx hb dL_law_1208 (lv_at hl 1 rfl) ?_
  refine lv_icmp_eq (tgt := 1215) hx hb dL_law_1210 (by decide) (fun _ => ?_) (fun h9 => absurd h9 (by decide))
  refine lv_iload hx hb dL_law_1215 (lv_at hl 1 rfl) ?_
  refine lv_if_ne (tgt := 1232) hx hb dL_law_1217 (by decide) (fun _ => ?_) (fun h9 => absurd h9 (by decide))
  refine lv_goto (tgt := 1235) hx hb dL_law_1232 (by decide) ?_
  exact kk _ _ _ _  h11 ⟨h12, h13, h14, h15, h16, h17⟩ h4 ⟨h5, h6, h7, h8⟩  hfr10 hG hS (lv_sub hl [2, 3, 4, 5, 6] rfl)
