/-! pure: the parts, held on both sides -/
def szN (x : Int32) : Prop := ∃ v, 1 ≤ v ∧ v ≤ 1000 ∧ x = nI v
theorem sz_of {x : Int32} (h : szR x) : szN x := by
  obtain ⟨h1, h2⟩ := h
  have h0 : ¬ x < 0 := fun z => h1 (Int32.lt_trans z (by decide))
  obtain ⟨v, hv, e⟩ := nI_of2 (n := 1000) (by decide) h0 (Int32.not_lt.mp h2)
  refine ⟨v, ?_, hv, e⟩
  cases v with
  | zero => rw [e] at h1; exact absurd (by decide) h1
  | succ v => omega
def chN (x : Int32) : Prop := ∃ v, v ≤ 2 ∧ x = nI v
theorem ch_of {x : Int32} (h : rngI x 0 2) : chN x := nI_of2 (n := 2) (by decide) h.1 (Int32.not_lt.mp h.2)
theorem t_add {x y : Int32} (h1 : chN x) (h2 : chN y) : (x + y).toInt64 = x.toInt64 + y.toInt64 := by
  obtain ⟨a, ha, rfl⟩ := h1
  obtain ⟨b, hb, rfl⟩ := h2
  rw [nI_add, nI_l (by omega), nI_l (by omega), nI_l (by omega), lN_add]
theorem t_sub {x y : Int32} (h1 : chN x) (h2 : chN y) : (x - y).toInt64 = x.toInt64 - y.toInt64 := by
  obtain ⟨a, ha, rfl⟩ := h1
  obtain ⟨b, hb, rfl⟩ := h2
  apply Int64.toInt_inj.mp
  rw [Int32.toInt_toInt64, pk_sub_toInt (by omega) (by omega), nI_l (by omega), nI_l (by omega), mD_int (by omega) (by omega)]
theorem t_mul {x y : Int32} (h1 : szN x) (h2 : szN y) : (x * y).toInt64 = x.toInt64 * y.toInt64 := by
  obtain ⟨a, -, ha, rfl⟩ := h1
  obtain ⟨b, -, hb, rfl⟩ := h2
  have : a * b ≤ 1000 * 1000 := Nat.mul_le_mul ha hb
  rw [pk_mul, nI_l (by omega), nI_l (by omega), nI_l (by omega), lN_mul]
theorem t_mul4 {y : Int32} (h2 : szN y) : (4 * y).toInt64 = 4 * y.toInt64 := by
  obtain ⟨b, -, hb, rfl⟩ := h2
  show (nI 4 * nI b).toInt64 = _
  rw [pk_mul, nI_l (by omega), nI_l (by omega), ← lN_mul]
  rfl
def relQ (j : Nat) (up lo : Nat → Int64) (fa we ti ri rd ma mb mc co ro : Nat → Int32) : Prop :=
  up j = mUp rd ma mb mc j ∧ lo j = mLo rd ma mb mc co j ∧ ri j = ro j ∧ (ro j = -1 ∨ ¬ ro j < 0) ∧ szN (ma j) ∧ szN (mb j) ∧
  ((rd j = 0 ∧ szN (mc j) ∧ fa j = 6 ∧ ∀ f, f < 6 → we (j * 6 + f) = qB (ma j) (mb j) (mc j) f ∧ ti (j * 6 + f) = co (6 * j + f) ∧ chN (co (6 * j + f))) ∨
   (¬ rd j = 0 ∧ fa j = 3 ∧ ∀ f, f < 3 → we (j * 6 + f) = qC (ma j) (mb j) f ∧ ti (j * 6 + f) = co (6 * j + f) ∧ chN (co (6 * j + f))))
def relP (n : Nat) (up lo : Nat → Int64) (fa we ti ri jo rd ma mb mc co jn ro : Nat → Int32) : Prop :=
  n ≤ 12 ∧ (∀ j, j < n → relQ j up lo fa we ti ri rd ma mb mc co ro) ∧ (∀ j, n ≤ j → lo j = 0) ∧ (∀ z, n * 6 ≤ z → ti z = 0) ∧ relJ jo jn
theorem mUp_b {rd ma mb mc : Nat → Int32} {j : Nat} (h : rd j = 0) : mUp rd ma mb mc j = (ma j).toInt64 * (mb j).toInt64 * (mc j).toInt64 := if_pos h
theorem mUp_c {rd ma mb mc : Nat → Int32} {j : Nat} (h : ¬ rd j = 0) : mUp rd ma mb mc j = (ma j).toInt64 * (mb j).toInt64 := if_neg h
theorem mLo_b {rd ma mb mc co : Nat → Int32} {j : Nat} (h : rd j = 0) (hc : ∀ f, f < 6 → chN (co (6 * j + f))) : mLo rd ma mb mc co j = ((co (6 * j + 0)).toInt64 + (co (6 * j + 1)).toInt64) * (mb j).toInt64 * (mc j).toInt64 + ((co (6 * j + 2)).toInt64 + (co (6 * j + 3)).toInt64) * (ma j).toInt64 * (mc j).toInt64 + ((co (6 * j + 4)).toInt64 + (co (6 * j + 5)).toInt64) * (ma j).toInt64 * (mb j).toInt64 := by
  unfold mLo
  rw [if_pos h]
  unfold mFc
  rw [t_add (hc 0 (by omega)) (hc 1 (by omega)), t_add (hc 2 (by omega)) (hc 3 (by omega)), t_add (hc 4 (by omega)) (hc 5 (by omega))]
theorem mLo_c {rd ma mb mc co : Nat → Int32} {j : Nat} (h : ¬ rd j = 0) (hc : ∀ f, f < 3 → chN (co (6 * j + f))) : mLo rd ma mb mc co j = 4 * (co (6 * j + 0)).toInt64 * (mb j).toInt64 + ((co (6 * j + 1)).toInt64 + (co (6 * j + 2)).toInt64) * (ma j).toInt64 := by
  unfold mLo
  rw [if_neg h]
  unfold mFc
  rw [t_add (hc 1 (by omega)) (hc 2 (by omega))]
  rfl
theorem relQ_uv {j : Nat} {up lo : Nat → Int64} {fa we ti ri rd ma mb mc co ro : Nat → Int32} (h : relQ j up lo fa we ti ri rd ma mb mc co ro) : ∃ u v, mUp rd ma mb mc j = lN u ∧ mLo rd ma mb mc co j = lN v ∧ 0 < u ∧ u ≤ 1000000000 ∧ v ≤ 12000000 := by
  obtain ⟨-, -, -, -, ⟨a, a1, a2, ea⟩, ⟨b, b1, b2, eb⟩, hc⟩ := h
  have ta : (ma j).toInt64 = lN a := by rw [ea]; exact nI_l (by omega)
  have tb : (mb j).toInt64 = lN b := by rw [eb]; exact nI_l (by omega)
  have hab : a * b ≤ 1000 * 1000 := Nat.mul_le_mul a2 b2
  have hab0 : 0 < a * b := Nat.mul_pos a1 b1
  rcases hc with ⟨hr, ⟨c, c1, c2, ec⟩, -, hf⟩ | ⟨hr, -, hf⟩
  · have tc : (mc j).toInt64 = lN c := by rw [ec]; exact nI_l (by omega)
    obtain ⟨v0, g0, e0⟩ := (hf 0 (by omega)).2.2
    obtain ⟨v1, g1, e1⟩ := (hf 1 (by omega)).2.2
    obtain ⟨v2, g2, e2⟩ := (hf 2 (by omega)).2.2
    obtain ⟨v3, g3, e3⟩ := (hf 3 (by omega)).2.2
    obtain ⟨v4, g4, e4⟩ := (hf 4 (by omega)).2.2
    obtain ⟨v5, g5, e5⟩ := (hf 5 (by omega)).2.2
    have habc : a * b * c ≤ 1000 * 1000 * 1000 := Nat.mul_le_mul hab c2
    have h1 : (v0 + v1) * b * c ≤ 4 * 1000 * 1000 := Nat.mul_le_mul (Nat.mul_le_mul (by omega) b2) c2
    have h2 : (v2 + v3) * a * c ≤ 4 * 1000 * 1000 := Nat.mul_le_mul (Nat.mul_le_mul (by omega) a2) c2
    have h3 : (v4 + v5) * a * b ≤ 4 * 1000 * 1000 := Nat.mul_le_mul (Nat.mul_le_mul (by omega) a2) b2
    refine ⟨a * b * c, (v0 + v1) * b * c + (v2 + v3) * a * c + (v4 + v5) * a * b, ?_, ?_, Nat.mul_pos hab0 c1, by omega, by omega⟩
    · rw [mUp_b hr, ta, tb, tc, lN_mul, lN_mul]
    · rw [mLo_b hr (fun f h => (hf f h).2.2), ta, tb, tc, e0, e1, e2, e3, e4, e5]
      rw [nI_l (n := v0) (by omega), nI_l (n := v1) (by omega), nI_l (n := v2) (by omega), nI_l (n := v3) (by omega), nI_l (n := v4) (by omega), nI_l (n := v5) (by omega)]
      simp only [lN_mul, lN_add]
  · obtain ⟨v0, g0, e0⟩ := (hf 0 (by omega)).2.2
    obtain ⟨v1, g1, e1⟩ := (hf 1 (by omega)).2.2
    obtain ⟨v2, g2, e2⟩ := (hf 2 (by omega)).2.2
    have h1 : 4 * v0 * b ≤ 8 * 1000 := Nat.mul_le_mul (by omega) b2
    have h2 : (v1 + v2) * a ≤ 4 * 1000 := Nat.mul_le_mul (by omega) a2
    refine ⟨a * b, 4 * v0 * b + (v1 + v2) * a, ?_, ?_, hab0, by omega, by omega⟩
    · rw [mUp_c hr, ta, tb, lN_mul]
    · rw [mLo_c hr (fun f h => (hf f h).2.2), ta, tb, e0, e1, e2]
      rw [nI_l (n := v0) (by omega), nI_l (n := v1) (by omega), nI_l (n := v2) (by omega)]
      show lN 4 * lN v0 * lN b + (lN v1 + lN v2) * lN a = _
      simp only [lN_mul, lN_add]
theorem lN_nat {u : Nat} (h : u < 2 ^ 62) : lN ((lN u).toInt.toNat) = lN u := by rw [pk_lT (by omega)]; rfl
theorem relP_uv {n : Nat} {up lo : Nat → Int64} {fa we ti ri jo rd ma mb mc co jn ro : Nat → Int32} (h : relP n up lo fa we ti ri jo rd ma mb mc co jn ro) : ∃ U V, uvR n up lo U V ∧ uvR n (mUp rd ma mb mc) (mLo rd ma mb mc co) U V := by
  refine ⟨fun j => (mUp rd ma mb mc j).toInt.toNat, fun j => (mLo rd ma mb mc co j).toInt.toNat, ?_⟩
  have key : uvR n (mUp rd ma mb mc) (mLo rd ma mb mc co) (fun j => (mUp rd ma mb mc j).toInt.toNat) (fun j => (mLo rd ma mb mc co j).toInt.toNat) := by
    intro j hj
    obtain ⟨u, v, e1, e2, b1, b2, b3⟩ := relQ_uv (h.2.1 j hj)
    dsimp only
    rw [e1, e2, pk_lT (by omega), pk_lT (by omega)]
    exact ⟨rfl, rfl, b1, b2, b3⟩
  refine ⟨fun j hj => ?_, key⟩
  have hq := h.2.1 j hj
  obtain ⟨k1, k2, k3⟩ := key j hj
  exact ⟨hq.1.trans k1, hq.2.1.trans k2, k3⟩
/-- a part keeps its relation where nothing of it has changed -/
theorem relQ_c {j : Nat} {up lo up' lo' : Nat → Int64} {fa we ti ri rd ma mb mc co ro fa' we' ti' ri' rd' ma' mb' mc' co' ro' : Nat → Int32} (h : relQ j up lo fa we ti ri rd ma mb mc co ro) (e1 : up' j = up j) (e2 : lo' j = lo j) (e3 : fa' j = fa j) (e4 : ∀ f, f < 6 → we' (j * 6 + f) = we (j * 6 + f) ∧ ti' (j * 6 + f) = ti (j * 6 + f) ∧ co' (6 * j + f) = co (6 * j + f)) (e5 : ri' j = ri j) (e6 : rd' j = rd j) (e7 : ma' j = ma j) (e8 : mb' j = mb j) (e9 : mc' j = mc j) (e10 : ro' j = ro j) : relQ j up' lo' fa' we' ti' ri' rd' ma' mb' mc' co' ro' := by
  obtain ⟨h1, h2, h3, h4, h5, h6, h7⟩ := h
  have c0 := (e4 0 (by omega)).2.2
  have c1 := (e4 1 (by omega)).2.2
  have c2 := (e4 2 (by omega)).2.2
  have c3 := (e4 3 (by omega)).2.2
  have c4 := (e4 4 (by omega)).2.2
  have c5 := (e4 5 (by omega)).2.2
  have hu : mUp rd' ma' mb' mc' j = mUp rd ma mb mc j := by unfold mUp; rw [e6, e7, e8, e9]
  have hl : mLo rd' ma' mb' mc' co' j = mLo rd ma mb mc co j := by
    unfold mLo mFc
    simp only [Nat.add_zero, Nat.add_assoc] at c0 c1 c2 c3 c4 c5 ⊢
    rw [e6, e7, e8, e9, c0, c1, c2, c3, c4, c5]
  refine ⟨by rw [e1, hu, h1], by rw [e2, hl, h2], by rw [e5, e10, h3], by rw [e10]; exact h4, by rw [e7]; exact h5, by rw [e8]; exact h6, ?_⟩
  rw [e6, e7, e8, e9, e3]
  rcases h7 with ⟨q1, q2, q3, q4⟩ | ⟨q1, q3, q4⟩
  · refine Or.inl ⟨q1, q2, q3, fun f hf => ?_⟩
    obtain ⟨z1, z2, z3⟩ := e4 f hf
    rw [z1, z2, z3]
    exact q4 f hf
  · refine Or.inr ⟨q1, q3, fun f hf => ?_⟩
    obtain ⟨z1, z2, z3⟩ := e4 f (by omega)
    rw [z1, z2, z3]
    exact q4 f hf
theorem co6_in (co : Nat → Int32) (n f : Nat) (hf : f < 6) : co6 co n (6 * n + f) = 1 := by
  unfold co6 upd
  rcases (show f = 0 ∨ f = 1 ∨ f = 2 ∨ f = 3 ∨ f = 4 ∨ f = 5 by omega) with rfl | rfl | rfl | rfl | rfl | rfl <;> simp
theorem co6_out (co : Nat → Int32) (n z : Nat) (hz : z < 6 * n ∨ 6 * n + 6 ≤ z) : co6 co n z = co z := by
  unfold co6
  rw [pk_un (by omega), pk_un (by omega), pk_un (by omega), pk_un (by omega), pk_un (by omega), pk_un (by omega)]
