/-! pure: the molding -/
theorem shF_spec (bw bd bu : Int32) (ns : Nat) (sd su : Nat → Int32) (w d : Int32) : ∀ k i, (∃ j, i ≤ j ∧ j < i + k ∧ shP bw sd su w d j ∧ (∀ z, i ≤ z → z < j → ¬ shP bw sd su w d z) ∧ shF bw bd bu ns sd su w d k i = nI j) ∨ ((∀ z, i ≤ z → z < i + k → ¬ shP bw sd su w d z) ∧ shF bw bd bu ns sd su w d k i = shF bw bd bu ns sd su w d 0 0) := by
  intro k
  induction k with
  | zero => intro i; exact Or.inr ⟨fun z h1 h2 => by omega, rfl⟩
  | succ k ih =>
    intro i
    by_cases h : shP bw sd su w d i
    · exact Or.inl ⟨i, Nat.le_refl _, by omega, h, fun z h1 h2 => by omega, shF_y h⟩
    · rw [shF_n h]
      rcases ih (i + 1) with ⟨j, h1, h2, h3, h4, e⟩ | ⟨q, e⟩
      · refine Or.inl ⟨j, by omega, by omega, h3, fun z z1 z2 => ?_, e⟩
        by_cases hz : z = i
        · rw [hz]; exact h
        · exact h4 z (by omega) z2
      · refine Or.inr ⟨fun z z1 z2 => ?_, e⟩
        by_cases hz : z = i
        · rw [hz]; exact h
        · exact q z (by omega) (by omega)
theorem tkF_snoc (xf xw : Nat → Int32) (j : Nat) : ∀ k i s, tkF xf xw j (k + 1) i s = tkF xf xw j k i s + @ite Int32 (xf (i + k) = xf j) (Classical.propDecidable _) (xw (i + k)) 0 := by
  intro k
  induction k with
  | zero => intro i s; rfl
  | succ k ih =>
    intro i s
    show tkF xf xw j (k + 1) (i + 1) _ = _
    rw [ih (i + 1)]
    rw [show i + 1 + k = i + (k + 1) by omega]
    rfl
theorem tkF_c {xf xw xf' xw' : Nat → Int32} {j : Nat} (hj : xf' j = xf j) : ∀ k i s, (∀ t, i ≤ t → t < i + k → xf' t = xf t ∧ xw' t = xw t) → tkF xf' xw' j k i s = tkF xf xw j k i s := by
  intro k
  induction k with
  | zero => intro i s _; rfl
  | succ k ih =>
    intro i s h
    obtain ⟨e1, e2⟩ := h i (Nat.le_refl _) (by omega)
    show tkF xf' xw' j k (i + 1) _ = tkF xf xw j k (i + 1) _
    rw [ih (i + 1) _ (fun t h1 h2 => h t (by omega) (by omega)), e1, e2, hj]
theorem seF_snoc (xa xf xd : Nat → Int32) : ∀ k i e, seF xa xf xd (k + 1) i e = @ite Int32 (xa (i + k) = 0 ∧ seF xa xf xd k i e < xf (i + k) + xd (i + k)) (Classical.propDecidable _) (xf (i + k) + xd (i + k)) (seF xa xf xd k i e) := by
  intro k
  induction k with
  | zero => intro i e; rfl
  | succ k ih =>
    intro i e
    show seF xa xf xd (k + 1) (i + 1) _ = _
    rw [ih (i + 1)]
    rw [show i + 1 + k = i + (k + 1) by omega]
    rfl
theorem seF_c {xa xf xd xa' xf' xd' : Nat → Int32} : ∀ k i e, (∀ t, i ≤ t → t < i + k → xa' t = xa t ∧ xf' t = xf t ∧ xd' t = xd t) → seF xa' xf' xd' k i e = seF xa xf xd k i e := by
  intro k
  induction k with
  | zero => intro i e _; rfl
  | succ k ih =>
    intro i e h
    obtain ⟨e1, e2, e3⟩ := h i (Nat.le_refl _) (by omega)
    show seF xa' xf' xd' k (i + 1) _ = seF xa xf xd k (i + 1) _
    rw [ih (i + 1) _ (fun t h1 h2 => h t (by omega) (by omega)), e1, e2, e3]
theorem mTk_add {xf xw : Nat → Int32} {nt j : Nat} (hj : j < nt) (v x : Int32) : mTk (upd xf nt v) (upd xw nt x) (nt + 1) j = mTk xf xw nt j + @ite Int32 (v = xf j) (Classical.propDecidable _) x 0 := by
  unfold mTk
  rw [show nt + 1 - j = (nt - j) + 1 by omega, tkF_snoc, show j + (nt - j) = nt by omega, pk_us, pk_us, pk_un (show j ≠ nt by omega)]
  rw [tkF_c (xf' := upd xf nt v) (xw' := upd xw nt x) (pk_un (show j ≠ nt by omega)) (nt - j) j 0 (fun t h1 h2 => ⟨pk_un (by omega), pk_un (by omega)⟩)]
theorem mTk_new {xf xw : Nat → Int32} {nt : Nat} (v x : Int32) : mTk (upd xf nt v) (upd xw nt x) (nt + 1) nt = 0 + x := by
  unfold mTk
  rw [show nt + 1 - nt = 0 + 1 by omega, tkF_y rfl, pk_us]
  rfl
def wdN (x : Int32) : Prop := ∃ v, 1 ≤ v ∧ v ≤ 2000 ∧ x = nI v
theorem wd_of {x : Int32} (h : wdR x) : wdN x := by
  obtain ⟨h1, h2⟩ := h
  have h0 : ¬ x < 0 := fun z => h1 (Int32.lt_trans z (by decide))
  obtain ⟨v, hv, e⟩ := nI_of2 (n := 2000) (by decide) h0 (Int32.not_lt.mp h2)
  refine ⟨v, ?_, hv, e⟩
  cases v with
  | zero => rw [e] at h1; exact absurd (by decide) h1
  | succ v => omega
/-- both moldings: fi s is the first thing of shelf s; bwN, bdN, buN the numbers behind -/
def relM (bw bd bu : Int32) (nt ns : Nat) (tw td sb sd su xa xf xw xd : Nat → Int32) : Prop :=
  nt ≤ 40 ∧ ns ≤ nt ∧ wdN bw ∧ wdN bd ∧ (∀ t, t < nt → tw t = xa t ∧ td t = xf t) ∧ bu = seF xa xf xd nt 0 0 ∧
  ∃ (fi : Nat → Nat) (B : Nat), bu = nI B ∧ B ≤ 2000 ∧ (∀ t, t < nt → ∃ v, v < B ∧ xf t = nI v) ∧
    (∀ s, s < ns → fi s < nt ∧ xa (fi s) = 0 ∧ sb s = xf (fi s) ∧ sd s = xd (fi s) ∧ su s = mTk xf xw nt (fi s) ∧ ∃ u, 1 ≤ u ∧ u ≤ 2000 ∧ su s = nI u) ∧
    (∀ s r, s < r → r < ns → fi s < fi r) ∧ (∀ t, t < nt → xa t = 0 → ∃ s, s < ns ∧ fi s = t) ∧ (∀ s r, s < ns → r < ns → xf (fi s) = xf (fi r) → s = r)
theorem relM_new {x y : Int32} (h1 : wdR x) (h2 : wdR y) (tw td sb sd su xa xf xw xd : Nat → Int32) : relM x y 0 0 0 tw td sb sd su xa xf xw xd :=
  ⟨by omega, by omega, wd_of h1, wd_of h2, fun t h => by omega, rfl, id, 0, rfl, by omega, fun t h => by omega, fun s h => by omega, fun s r h1 h2 => by omega, fun t h => by omega, fun s r h => by omega⟩
def updN (f : Nat → Nat) (k v : Nat) : Nat → Nat := fun z => if z = k then v else f z
theorem updN_s {f : Nat → Nat} {k v : Nat} : updN f k v k = v := if_pos rfl
theorem updN_n {f : Nat → Nat} {k v z : Nat} (h : ¬ z = k) : updN f k v z = f z := if_neg h
section RM
variable {bw bd bu : Int32} {nt ns : Nat} {tw td sb sd su xa xf xw xd : Nat → Int32}
theorem sh_iff {bw w su : Int32} {b x u : Nat} (e1 : bw = nI b) (e2 : w = nI x) (e3 : su = nI u) (h1 : b ≤ 2000) (h2 : x ≤ 2000) (h3 : u ≤ 2000) : bw - su < w ↔ bw < su + w := by
  subst e1 e2 e3
  rw [Int32.lt_iff_toInt_lt, Int32.lt_iff_toInt_lt, pk_sub_toInt (by omega) (by omega), nI_add, nI_toInt (by omega), nI_toInt (by omega), nI_toInt (by omega)]
  omega
/-- the class's shelf and the reference's first thing -/
theorem shelf_eq (h : relM bw bd bu nt ns tw td sb sd su xa xf xw xd) {x y : Int32} (h1 : wdR x) (h2 : wdR y) :
    (∃ i f, i < ns ∧ f < nt ∧ shF bw bd bu ns sd su x y ns 0 = nI i ∧ fstF (mShP bw xa xf xw xd nt x y) nt 0 = nI f ∧ sb i = xf f ∧ su i = mTk xf xw nt f ∧ ¬ bw - su i < x) ∨
    (shF bw bd bu ns sd su x y ns 0 = shF bw bd bu ns sd su x y 0 0 ∧ fstF (mShP bw xa xf xw xd nt x y) nt 0 = -1) := by
  obtain ⟨c1, c2, ⟨b, b1, b2, eb⟩, -, -, -, fi, B, -, -, -, g4, g5, g6, -⟩ := h
  obtain ⟨vx, x1, x2, ex⟩ := wd_of h1
  have hiff : ∀ s, s < ns → (shP bw sd su x y s ↔ mShP bw xa xf xw xd nt x y (fi s)) := by
    intro s hs
    obtain ⟨q1, q2, q3, q4, q5, u, u1, u2, q6⟩ := g4 s hs
    unfold shP mShP
    rw [q4, sh_iff eb ex q6 b2 x2 u2, ← q5]
    exact ⟨fun z => ⟨q2, z⟩, fun z => z.2⟩
  rcases shF_spec bw bd bu ns sd su x y ns 0 with ⟨i, -, i2, i3, i4, e⟩ | ⟨q, e⟩
  · obtain ⟨q1, q2, q3, q4, q5, u, u1, u2, q6⟩ := g4 i (by omega)
    rcases fstF_spec (mShP bw xa xf xw xd nt x y) nt 0 with ⟨e2, z2⟩ | ⟨f, -, f2, f3, f4, e2⟩
    · exact absurd ((hiff i (by omega)).mp i3) (z2 (fi i) (Nat.zero_le _) (by omega))
    · obtain ⟨s, s1, s2⟩ := g6 f (by omega) f3.1
      have hsi : s = i := by
        rcases Nat.lt_trichotomy s i with hlt | heq | hgt
        · exact absurd ((hiff s s1).mpr (by rw [s2]; exact f3)) (i4 s (Nat.zero_le _) hlt)
        · exact heq
        · exact absurd ((hiff i (by omega)).mp i3) (f4 (fi i) (Nat.zero_le _) (by rw [← s2]; exact g5 i s hgt s1))
      subst hsi
      subst s2
      exact Or.inl ⟨s, fi s, by omega, q1, e, e2, q3, q5, i3.2⟩
  · refine Or.inr ⟨e, ?_⟩
    rcases fstF_spec (mShP bw xa xf xw xd nt x y) nt 0 with ⟨e2, z2⟩ | ⟨f, -, f2, f3, f4, e2⟩
    · exact e2
    · obtain ⟨s, s1, s2⟩ := g6 f (by omega) f3.1
      exact absurd ((hiff s s1).mpr (by rw [s2]; exact f3)) (q s (Nat.zero_le _) (by omega))
theorem relM_old (h : relM bw bd bu nt ns tw td sb sd su xa xf xw xd) (hn : nt < 40) {x y : Int32} (h1 : wdR x) (h2 : wdR y) {i : Nat} (hi : i < ns) (hsh : shF bw bd bu ns sd su x y ns 0 = nI i) {f : Nat} (hf : f < nt) (hsf : fstF (mShP bw xa xf xw xd nt x y) nt 0 = nI f) :
    relM bw bd bu (nt + 1) ns (upd tw nt (su i)) (upd td nt (sb i)) sb sd (upd su i (su i + x)) (upd xa nt (mTk xf xw nt f)) (upd xf nt (xf f)) (upd xw nt x) (upd xd nt y) := by
  have h9 := h
  obtain ⟨c1, c2, ⟨b, b1, b2, eb⟩, c4, c5, c6, fi, B, g1, g2, g3, g4, g5, g6, g7⟩ := h
  obtain ⟨vx, x1, x2, ex⟩ := wd_of h1
  rcases (shelf_eq h9 h1 h2).symm with ⟨-, k2⟩ | ⟨i', f', k1, k2, k3, k4, k5, k6, k7⟩
  · rw [hsf] at k2; exact absurd k2 (nI_nm1 (by omega))
  rw [hsh] at k3
  rw [hsf] at k4
  have e1 : i = i' := (nI_eq (by omega) (by omega)).mp k3
  have e2 : f = f' := (nI_eq (by omega) (by omega)).mp k4
  subst e1
  subst e2
  obtain ⟨q1, q2, q3, q4, q5, u, u1, u2, q6⟩ := g4 i hi
  have hfit : u + vx ≤ b := by
    have k8 := k7
    rw [sh_iff eb ex q6 b2 x2 u2, eb, ex, q6, nI_add, nI_ltI (by omega) (by omega)] at k8
    omega
  have hxa : ¬ mTk xf xw nt f = 0 := by rw [← k6, q6]; exact nI_ne0 (by omega) (by omega)
  have hff : xf f = xf (fi i) := by rw [← k5, q3]
  refine ⟨by omega, by omega, ⟨b, b1, b2, eb⟩, c4, fun t ht => ?_, ?_, fi, B, g1, g2, fun t ht => ?_, fun s hs => ?_, g5, fun t ht hx => ?_, fun s r hs hr hx => ?_⟩
  · by_cases e : t = nt
    · subst e; rw [pk_us, pk_us, pk_us, pk_us]; exact ⟨k6, k5⟩
    · rw [pk_un e, pk_un e, pk_un e, pk_un e]; exact c5 t (by omega)
  · rw [seF_snoc, seF_c (xa := xa) (xf := xf) (xd := xd) nt 0 0 (fun t _ h => ⟨pk_un (by omega), pk_un (by omega), pk_un (by omega)⟩), ← c6, Nat.zero_add, pk_us, if_neg (fun z => hxa z.1)]
  · by_cases e : t = nt
    · subst e; rw [pk_us]; exact g3 f hf
    · rw [pk_un e]; exact g3 t (by omega)
  · obtain ⟨r1, r2, r3, r4, r5, v, v1, v2, r6⟩ := g4 s hs
    have hne : fi s ≠ nt := by omega
    rw [pk_un hne, pk_un hne, pk_un hne, mTk_add r1]
    refine ⟨by omega, r2, r3, r4, ?_⟩
    by_cases e : s = i
    · subst e
      rw [pk_us, if_pos hff, ← q5]
      exact ⟨rfl, u + vx, by omega, by omega, by rw [q6, ex, nI_add]⟩
    · rw [pk_un e, if_neg (fun z => e (g7 s i hs hi (by rw [← hff, z]))), Int32.add_zero]
      exact ⟨r5, v, v1, v2, r6⟩
  · by_cases e : t = nt
    · subst e; rw [pk_us] at hx; exact absurd hx hxa
    · rw [pk_un e] at hx; exact g6 t (by omega) hx
  · have hs2 := (g4 s hs).1
    have hr2 := (g4 r hr).1
    rw [pk_un (by omega), pk_un (by omega)] at hx
    exact g7 s r hs hr hx
theorem relM_add (h : relM bw bd bu nt ns tw td sb sd su xa xf xw xd) (hn : nt < 40) {x y : Int32} (h1 : wdR x) (h2 : wdR y) (hb1 : ¬ bw < x) (hb2 : ¬ bd - bu < y) :
    relM bw bd (bu + y) (nt + 1) (ns + 1) (upd tw nt (upd su ns 0 ns)) (upd td nt (upd sb ns bu ns)) (upd sb ns bu) (upd sd ns y) (upd (upd su ns 0) ns (upd su ns 0 ns + x)) (upd xa nt 0) (upd xf nt (seF (upd xa nt 0) xf xd nt 0 0)) (upd xw nt x) (upd xd nt y) := by
  obtain ⟨c1, c2, ⟨b, b1, b2, eb⟩, ⟨d, d1, d2, ed⟩, c5, c6, fi, B, g1, g2, g3, g4, g5, g6, g7⟩ := h
  obtain ⟨vx, x1, x2, ex⟩ := wd_of h1
  obtain ⟨vy, y1, y2, ey⟩ := wd_of h2
  rw [seF_c (xa := xa) (xf := xf) (xd := xd) nt 0 0 (fun t _ h => ⟨pk_un (by omega), rfl, rfl⟩), ← c6]
  have hfit : B + vy ≤ d := by
    have k8 := hb2
    rw [sh_iff ed ey g1 d2 y2 g2, ed, ey, g1, nI_add, nI_ltI (by omega) (by omega)] at k8
    omega
  have hxb : vx ≤ b := by
    rw [eb, ex, nI_ltI (by omega) (by omega)] at hb1
    omega
  have hlt : bu < bu + y := by rw [g1, ey, nI_add]; exact nI_lt (by omega) (by omega)
  refine ⟨by omega, by omega, ⟨b, b1, b2, eb⟩, ⟨d, d1, d2, ed⟩, fun t ht => ?_, ?_, updN fi ns nt, B + vy, by rw [g1, ey, nI_add], by omega, fun t ht => ?_, fun s hs => ?_, fun s r hsr hr => ?_, fun t ht hx => ?_, fun s r hs hr hx => ?_⟩
  · by_cases e : t = nt
    · subst e; rw [pk_us, pk_us, pk_us, pk_us, pk_us, pk_us]; exact ⟨rfl, rfl⟩
    · rw [pk_un e, pk_un e, pk_un e, pk_un e]; exact c5 t (by omega)
  · rw [seF_snoc, seF_c (xa := xa) (xf := xf) (xd := xd) nt 0 0 (fun t _ h => ⟨pk_un (by omega), pk_un (by omega), pk_un (by omega)⟩), ← c6, Nat.zero_add, pk_us, pk_us, pk_us, if_pos ⟨rfl, hlt⟩]
  · by_cases e : t = nt
    · subst e; rw [pk_us]; exact ⟨B, by omega, g1⟩
    · obtain ⟨v, v1, v2⟩ := g3 t (by omega)
      rw [pk_un e]; exact ⟨v, by omega, v2⟩
  · by_cases e : s = ns
    · subst e
      rw [updN_s, pk_us, pk_us, pk_us, pk_us, pk_us, pk_us, pk_us, mTk_new]
      exact ⟨by omega, rfl, rfl, rfl, rfl, vx, x1, x2, by rw [ex, Int32.zero_add]⟩
    · obtain ⟨r1, r2, r3, r4, r5, v, v1, v2, r6⟩ := g4 s (by omega)
      have hne : fi s ≠ nt := by omega
      rw [updN_n e, pk_un e, pk_un e, pk_un e, pk_un e, pk_un hne, pk_un hne, pk_un hne, mTk_add r1, if_neg ?_, Int32.add_zero]
      · exact ⟨by omega, r2, r3, r4, r5, v, v1, v2, r6⟩
      · obtain ⟨v, v1, v2⟩ := g3 (fi s) r1
        rw [v2, g1]
        intro z
        have := (nI_eq (by omega) (by omega)).mp z
        omega
  · by_cases e : r = ns
    · subst e
      have := (g4 s (by omega)).1
      rw [updN_s, updN_n (by omega)]; omega
    · rw [updN_n e, updN_n (by omega)]; exact g5 s r hsr (by omega)
  · by_cases e : t = nt
    · subst e; exact ⟨ns, by omega, updN_s⟩
    · rw [pk_un e] at hx
      obtain ⟨s, s1, s2⟩ := g6 t (by omega) hx
      exact ⟨s, by omega, by rw [updN_n (by omega)]; exact s2⟩
  · have key : ∀ z, z < ns → ¬ xf (fi z) = bu := fun z hz q => by
      obtain ⟨v, v1, v2⟩ := g3 (fi z) (g4 z hz).1
      rw [v2, g1] at q
      have := (nI_eq (by omega) (by omega)).mp q
      omega
    by_cases e : s = ns
    · by_cases e2 : r = ns
      · omega
      · subst e
        have h8 := (g4 r (by omega)).1
        rw [updN_s, pk_us, updN_n e2, pk_un (by omega)] at hx
        exact absurd hx.symm (key r (by omega))
    · by_cases e2 : r = ns
      · subst e2
        have h8 := (g4 s (by omega)).1
        rw [updN_s, pk_us, updN_n e, pk_un (by omega)] at hx
        exact absurd hx (key s (by omega))
      · have h8 := (g4 s (by omega)).1
        have h9 := (g4 r (by omega)).1
        rw [updN_n e, updN_n e2, pk_un (by omega), pk_un (by omega)] at hx
        exact g7 s r (by omega) (by omega) hx
end RM
