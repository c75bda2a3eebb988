/-! pure: the two sides' functions agree -/
theorem fstF_spec (P : Nat → Prop) : ∀ k i, (fstF P k i = -1 ∧ ∀ j, i ≤ j → j < i + k → ¬ P j) ∨ ∃ j, i ≤ j ∧ j < i + k ∧ P j ∧ (∀ z, i ≤ z → z < j → ¬ P z) ∧ fstF P k i = nI j := by
  intro k
  induction k with
  | zero => intro i; exact Or.inl ⟨rfl, fun j h1 h2 => by omega⟩
  | succ k ih =>
    intro i
    by_cases h : P i
    · exact Or.inr ⟨i, Nat.le_refl _, by omega, h, fun z h1 h2 => by omega, fstF_y h⟩
    · rcases ih (i + 1) with ⟨e, q⟩ | ⟨j, h1, h2, h3, h4, e⟩
      · refine Or.inl ⟨(fstF_n h).trans e, fun j h1 h2 => ?_⟩
        by_cases hj : j = i
        · rw [hj]; exact h
        · exact q j (by omega) (by omega)
      · refine Or.inr ⟨j, by omega, by omega, h3, fun z z1 z2 => ?_, (fstF_n h).trans e⟩
        by_cases hz : z = i
        · rw [hz]; exact h
        · exact h4 z (by omega) z2
theorem rwF_spec (P : Nat → Prop) : ∀ t f, (rwF P t f = f ∧ ∀ j, j < t → ¬ P j) ∨ ∃ j, j < t ∧ P j ∧ (∀ z, z < j → ¬ P z) ∧ rwF P t f = nI j := by
  intro t
  induction t with
  | zero => intro f; exact Or.inl ⟨rfl, fun j h => by omega⟩
  | succ t ih =>
    intro f
    by_cases h : P t
    · rw [rwF_y h]
      rcases ih (nI t) with ⟨e, q⟩ | ⟨j, h1, h2, h3, e⟩
      · exact Or.inr ⟨t, by omega, h, q, e⟩
      · exact Or.inr ⟨j, by omega, h2, h3, e⟩
    · rw [rwF_n h]
      rcases ih f with ⟨e, q⟩ | ⟨j, h1, h2, h3, e⟩
      · refine Or.inl ⟨e, fun j hj => ?_⟩
        by_cases hz : j = t
        · rw [hz]; exact h
        · exact q j (by omega)
      · exact Or.inr ⟨j, by omega, h2, h3, e⟩
theorem fst_rw {P Q : Nat → Prop} {n : Nat} (h : ∀ i, i < n → (P i ↔ Q i)) : fstF P n 0 = rwF Q n (-1) := by
  rcases fstF_spec P n 0 with ⟨e1, q1⟩ | ⟨j1, a1, b1, c1, d1, e1⟩
  · rcases rwF_spec Q n (-1) with ⟨e2, q2⟩ | ⟨j2, b2, c2, d2, e2⟩
    · rw [e1, e2]
    · exact absurd ((h j2 b2).mpr c2) (q1 j2 (Nat.zero_le _) (by omega))
  · rcases rwF_spec Q n (-1) with ⟨e2, q2⟩ | ⟨j2, b2, c2, d2, e2⟩
    · exact absurd ((h j1 (by omega)).mp c1) (q2 j1 (by omega))
    · rw [e1, e2]
      have h1 : ¬ j1 < j2 := fun z => d2 j1 z ((h j1 (by omega)).mp c1)
      have h2 : ¬ j2 < j1 := fun z => d1 j2 (Nat.zero_le _) z ((h j2 b2).mpr c2)
      rw [show j1 = j2 by omega]
theorem fst_c {P Q : Nat → Prop} : ∀ k i, (∀ j, i ≤ j → j < i + k → (P j ↔ Q j)) → fstF P k i = fstF Q k i := by
  intro k
  induction k with
  | zero => intro i _; rfl
  | succ k ih =>
    intro i h
    by_cases hp : P i
    · rw [fstF_y hp, fstF_y ((h i (Nat.le_refl _) (by omega)).mp hp)]
    · rw [fstF_n hp, fstF_n (fun q => hp ((h i (Nat.le_refl _) (by omega)).mpr q)), ih (i + 1) (fun j h1 h2 => h j (by omega) (by omega))]
theorem cnt_c {P Q : Nat → Prop} : ∀ k i, (∀ j, i ≤ j → j < i + k → (P j ↔ Q j)) → cntF P k i = cntF Q k i := by
  intro k
  induction k with
  | zero => intro i _; rfl
  | succ k ih =>
    intro i h
    have e := ih (i + 1) (fun j h1 h2 => h j (by omega) (by omega))
    by_cases hp : P i
    · rw [cntF_y hp, cntF_y ((h i (Nat.le_refl _) (by omega)).mp hp), e]
    · rw [cntF_n hp, cntF_n (fun q => hp ((h i (Nat.le_refl _) (by omega)).mpr q)), e]
theorem un_c {F G : Nat → Int32} {q : Int32} : ∀ k i b, (∀ j, i ≤ j → j < i + k → F j = G j) → unF F q k i b = unF G q k i b := by
  intro k
  induction k with
  | zero => intro i b _; rfl
  | succ k ih =>
    intro i b h
    have e0 := h i (Nat.le_refl _) (by omega)
    have e := fun b => ih (i + 1) b (fun j h1 h2 => h j (by omega) (by omega))
    by_cases hp : F i = -1
    · by_cases hb : nI b = q
      · rw [unF_y hp hb, unF_y (e0 ▸ hp) hb]
      · rw [unF_s hp hb, unF_s (e0 ▸ hp) hb, e]
    · rw [unF_n hp, unF_n (e0 ▸ hp), e]
theorem ga_c {f g : Int32 → Int32} {aim : Int32} : ∀ k lo hi, (∀ o, o < hi → f (nI o) = g (nI o)) → gaF f aim k lo hi = gaF g aim k lo hi := by
  intro k
  induction k with
  | zero => intro lo hi _; rfl
  | succ k ih =>
    intro lo hi h
    by_cases hh : hi ≤ lo
    · rw [gaF_e hh, gaF_e hh]
    · have e := h ((lo + hi) / 2) (by omega)
      by_cases hf : f (nI ((lo + hi) / 2)) < aim
      · rw [gaF_l (by omega) hf, gaF_l (by omega) (e ▸ hf), ih _ _ h]
      · rw [gaF_h (by omega) hf, gaF_h (by omega) (e ▸ hf), ih _ _ (fun o ho => h o (by omega))]
theorem gcF_gcd (m : Nat) : ∀ (k a b : Nat), 2 * m + 1 ≤ k → a < 2 ^ 62 → b < 2 ^ 62 → b < 2 ^ m → gcF k (lN a) (lN b) = lN (Nat.gcd a b) := by
  induction m with
  | zero =>
    intro k a b hk ha hb h
    have h0 : b = 0 := by omega
    subst h0
    rw [gcF_e (show lN 0 = 0 by decide), Nat.gcd_zero_right]
  | succ m ih =>
    intro k a b hk ha hb h
    by_cases h0 : b = 0
    · subst h0
      rw [gcF_e (show lN 0 = 0 by decide), Nat.gcd_zero_right]
    · obtain ⟨k1, rfl⟩ : ∃ z, k = z + 1 := ⟨k - 1, by omega⟩
      have hb0 : 0 < b := Nat.pos_of_ne_zero h0
      rw [gcF_n (lN_ne0 hb0 (by omega)), pk_lRem (by omega) hb0 (by omega)]
      have hr : a % b < b := Nat.mod_lt _ hb0
      have hg : Nat.gcd a b = Nat.gcd b (a % b) := by rw [Nat.gcd_comm a b, Nat.gcd_rec b a, Nat.gcd_comm]
      rw [hg]
      generalize a % b = r at hr ⊢
      by_cases hr0 : r = 0
      · subst hr0
        rw [gcF_e (show lN 0 = 0 by decide), Nat.gcd_zero_right]
      · obtain ⟨k2, rfl⟩ : ∃ z, k1 = z + 1 := ⟨k1 - 1, by omega⟩
        have hr1 : 0 < r := Nat.pos_of_ne_zero hr0
        rw [gcF_n (lN_ne0 hr1 (by omega)), pk_lRem (by omega) hr1 (by omega)]
        have hs : b % r < r := Nat.mod_lt _ hr1
        have hs2 : b % r + r ≤ b := by
          have h1 := Nat.div_add_mod b r
          have h2 : 1 ≤ b / r := Nat.div_pos (by omega) hr1
          have h3 : r * 1 ≤ r * (b / r) := Nat.mul_le_mul_left r h2
          omega
        have hg2 : Nat.gcd b r = Nat.gcd r (b % r) := by rw [Nat.gcd_comm b r, Nat.gcd_rec r b, Nat.gcd_comm]
        rw [hg2]
        exact ih k2 r (b % r) (by omega) (by omega) (by omega) (by rw [Nat.pow_succ] at h; omega)
theorem low_mod {u v : Nat} {q : Int32} (hu : u < 2 ^ 62) (hv : v < 2 ^ 24) (h0 : 0 < v) : lowT (lN u) (lN v) q = mMod (lN u) (lN v) (Nat.gcd v u) q := by
  have e : gcF 100 (lN u) (lN v) = lN (Nat.gcd v u) := by rw [Nat.gcd_comm v u]; exact gcF_gcd 24 100 u v (by omega) hu (by omega) hv
  have hg : 0 < Nat.gcd v u := Nat.gcd_pos_of_pos_left u h0
  have hg2 : Nat.gcd v u ≤ v := Nat.gcd_le_left u h0
  have hp : 0 < gcF 100 (lN u) (lN v) := by rw [e]; exact (pk_lLT (a := 0) (by omega) (by omega)).mpr hg
  by_cases hq : q = 0
  · rw [lowT_1 hp hq, e]; unfold mMod; rw [if_pos hq]
  · rw [lowT_2 hp hq, e]; unfold mMod; rw [if_neg hq]
/-! the flow -/
def relF (nf : Nat) (fo ff mo mf : Nat → Int32) : Prop := nf ≤ 8 ∧ (∀ i, i < nf → fo i = mo i ∧ ff i = mf i ∧ (∃ o, o ≤ 10000 ∧ mo i = nI o) ∧ (∃ f, f ≤ 1000000 ∧ mf i = nI f)) ∧ (∀ i, i + 1 < nf → mo i < mo (i + 1) ∧ mf i ≤ mf (i + 1))
theorem rngN {v : Int32} {hi : Int32} (M : Nat) (hM : hi.toInt = M) (h : rngI v 0 hi) : ∃ x, x ≤ M ∧ v = nI x := nI_of2 hM h.1 (Int32.not_lt.mp h.2)
theorem relF_lt {nf : Nat} {fo ff mo mf : Nat → Int32} (h : relF nf fo ff mo mf) : ∀ d i, i + d < nf → 0 < d → mo i < mo (i + d) := by
  intro d
  induction d with
  | zero => intro i _ h; omega
  | succ d ih =>
    intro i hi _
    by_cases hd : d = 0
    · subst hd; exact (h.2.2 i hi).1
    · exact Int32.lt_trans (ih i (by omega) (by omega)) (h.2.2 (i + d) (by omega)).1
theorem btw_ip {nf : Nat} {fo ff mo mf : Nat → Int32} {q : Int32} (h : relF nf fo ff mo mf) {i : Nat} (hi : i + 1 < nf) : btw fo ff i (i + 1) q = mIp mo mf q (i + 1) := by
  obtain ⟨e1, e2, ⟨o1, b1, n1⟩, -⟩ := h.2.1 i (by omega)
  obtain ⟨e3, e4, ⟨o2, b2, n2⟩, -⟩ := h.2.1 (i + 1) hi
  have h3 := (h.2.2 i hi).1
  have hlt : o1 < o2 := by rw [n1, n2] at h3; exact (nI_ltI (by omega) (by omega)).mp h3
  have hp : 0 < fo (i + 1) - fo i := by
    rw [e1, e3, n1, n2, pk_sub (by omega)]
    exact nI_lt (a := 0) (by omega) (by omega)
  unfold btw mIp
  rw [if_pos hp, e1, e2, e3, e4]
  rfl
theorem btw_e {nf : Nat} {fo ff mo mf : Nat → Int32} {q : Int32} (h : relF nf fo ff mo mf) {i : Nat} (hi : i + 1 < nf) (hq : q = mo i) : btw fo ff i (i + 1) q = mf i := by
  rw [btw_ip h hi]
  unfold mIp
  rw [Nat.add_sub_cancel, hq, Int32.sub_self]
  simp
theorem ip_e {nf : Nat} {fo ff mo mf : Nat → Int32} {q : Int32} (h : relF nf fo ff mo mf) {i : Nat} (hi : i + 1 < nf) (hq : q = mo (i + 1)) : mIp mo mf q (i + 1) = mf (i + 1) := by
  obtain ⟨-, -, ⟨o1, b1, n1⟩, ⟨f1, c1, m1⟩⟩ := h.2.1 i (by omega)
  obtain ⟨-, -, ⟨o2, b2, n2⟩, ⟨f2, c2, m2⟩⟩ := h.2.1 (i + 1) hi
  have h3 := h.2.2 i hi
  have hlt : o1 < o2 := by have := h3.1; rw [n1, n2] at this; exact (nI_ltI (by omega) (by omega)).mp this
  have hle : f1 ≤ f2 := by have := h3.2; rw [m1, m2] at this; exact (nI_leI (by omega) (by omega)).mp this
  have hm : (f2 - f1) * (o2 - o1) ≤ 1000000 * 10000 := Nat.mul_le_mul (by omega) (by omega)
  unfold mIp
  rw [Nat.add_sub_cancel, hq, m1, m2, n1, n2, pk_sub hle, pk_sub (by omega), nI_l (by omega), nI_l (by omega), lN_mul, pk_lDiv (by omega) (by omega) (by omega), Nat.mul_div_cancel _ (by omega), lN_i, nI_add]
  congr 1
  omega
theorem fl_eq {nf : Nat} {fo ff mo mf : Nat → Int32} {q : Int32} (h : relF nf fo ff mo mf) : ∀ k i, i + 1 + k = nf → mo i ≤ q →
    (q < mo (nf - 1) → (q = mo i → flF fo ff q k (i + 1) (ff i) = mf i) ∧ (¬ q = mo i → flF fo ff q k (i + 1) (ff i) = mIp mo mf q (mfF mo q (k - 1) (i + 1)))) ∧ (¬ q < mo (nf - 1) → flF fo ff q k (i + 1) (ff i) = mf (nf - 1)) := by
  intro k
  induction k with
  | zero =>
    intro i hi hq
    have e : nf - 1 = i := by omega
    rw [e]
    exact ⟨fun z => absurd z (Int32.not_lt.mpr hq), fun _ => (h.2.1 i (by omega)).2.1⟩
  | succ k ih =>
    intro i hi hq
    have e1 := (h.2.1 (i + 1) (by omega)).1
    have hs := (h.2.2 i (by omega)).1
    by_cases hf : fo (i + 1) ≤ q
    · have hf2 : mo (i + 1) ≤ q := e1 ▸ hf
      have hne : ¬ q = mo i := fun z => by rw [z] at hf2; exact absurd hs (Int32.not_lt.mpr hf2)
      rw [flF_y hf]
      obtain ⟨a1, a2⟩ := ih (i + 1) (by omega) hf2
      refine ⟨fun hl => ⟨fun z => absurd z hne, fun _ => ?_⟩, a2⟩
      obtain ⟨b1, b2⟩ := a1 hl
      have hk : k ≠ 0 := fun z => by
        subst z
        rw [show nf - 1 = i + 1 by omega] at hl
        exact absurd hl (Int32.not_lt.mpr hf2)
      obtain ⟨k, rfl⟩ : ∃ z, k = z + 1 := ⟨k - 1, by omega⟩
      show _ = mIp mo mf q (mfF mo q (k + 1) (i + 1))
      by_cases hqe : q = mo (i + 1)
      · rw [b1 hqe, mfF_y (by rw [hqe]; exact Int32.le_refl _), ip_e h (by omega) hqe]
      · rw [b2 hqe, mfF_n (fun z => hqe (Int32.le_antisymm z hf2))]
        rfl
    · have hf2 : q < mo (i + 1) := e1 ▸ Int32.not_le.mp hf
      have hl : q < mo (nf - 1) := by
        by_cases hk : k = 0
        · rw [show nf - 1 = i + 1 by omega]; exact hf2
        · have := relF_lt h k (i + 1) (by omega) (by omega)
          rw [show nf - 1 = i + 1 + k by omega]
          exact Int32.lt_trans hf2 this
      rw [flF_n hf]
      refine ⟨fun _ => ⟨fun z => btw_e h (by omega) z, fun z => ?_⟩, fun z => absurd hl z⟩
      rw [mfF_y (Int32.le_of_lt hf2)]
      exact btw_ip h (by omega)
theorem flAt_mFl {nf : Nat} {fo ff mo mf : Nat → Int32} (h : relF nf fo ff mo mf) (h0 : 0 < nf) (q : Int32) : flAt fo ff nf q = mFl mo mf nf q := by
  obtain ⟨e1, e2, -⟩ := h.2.1 0 h0
  unfold flAt mFl
  by_cases hq : mo 0 < q
  · rw [if_pos (e1 ▸ hq), if_pos hq]
    obtain ⟨a1, a2⟩ := fl_eq (q := q) h (nf - 1) 0 (by omega) (Int32.le_of_lt hq)
    have hne : ¬ q = mo 0 := fun z => by rw [z] at hq; exact absurd hq (Int32.not_lt.mpr (Int32.le_refl _))
    by_cases hl : q < mo (nf - 1)
    · rw [if_pos hl, (a1 hl).2 hne]
      rfl
    · rw [if_neg hl, a2 hl]
  · rw [if_neg (e1 ▸ hq), if_neg hq, e2]
