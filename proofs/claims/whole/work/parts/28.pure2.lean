/-! pure: bits (rows of the kit's own text, turned) -/
def bt (x : Int32) (i : Nat) : Bool := x.toBitVec.getLsbD i
theorem b_ext {x y : Int32} (h : ∀ i, i < 32 → bt x i = bt y i) : x = y := Int32.toBitVec_inj.mp (BitVec.eq_of_getLsbD_eq (fun i hi => h i hi))
theorem b_and (x y : Int32) (i : Nat) : bt (x &&& y) i = (bt x i && bt y i) := by unfold bt; rw [Int32.toBitVec_and, BitVec.getLsbD_and]
theorem b_xor (x y : Int32) (i : Nat) : bt (x ^^^ y) i = (bt x i ^^ bt y i) := by unfold bt; rw [Int32.toBitVec_xor, BitVec.getLsbD_xor]
theorem b_0 (i : Nat) : bt 0 i = false := BitVec.getLsbD_zero
theorem b_one : ∀ i, i < 32 → bt 1 i = decide (i = 0) := by decide +kernel
theorem s_l : ∀ n, n < 32 → ((nI n &&& 31).toBitVec.smod 32).toNat = n := by decide +kernel
theorem b_shl (n : Nat) (hn : n < 32) (x : Int32) {i : Nat} (hi : i < 32) : bt (x <<< (nI n &&& 31)) i = (decide (n ≤ i) && bt x (i - n)) := by
  unfold bt
  rw [Int32.toBitVec_shiftLeft]
  show (x.toBitVec <<< ((nI n &&& 31).toBitVec.smod 32).toNat).getLsbD i = _
  rw [s_l n hn, BitVec.getLsbD_shiftLeft]
  rcases Nat.lt_or_ge i n with h | h
  · simp [h, Nat.not_le.mpr h]
  · simp [hi, h, Nat.not_lt.mpr h]
theorem b_sshr (n : Nat) (hn : n < 32) (x : Int32) {i : Nat} (hi : i < 32) : bt (x >>> (nI n &&& 31)) i = if n + i < 32 then bt x (n + i) else bt x 31 := by
  unfold bt
  rw [Int32.toBitVec_shiftRight]
  show (x.toBitVec.sshiftRight ((nI n &&& 31).toBitVec.smod 32).toNat).getLsbD i = _
  rw [s_l n hn, BitVec.getLsbD_sshiftRight, BitVec.msb_eq_getLsbD_last]
  simp [hi]
theorem b_bit (x : Int32) {j : Nat} (hj : j < 12) : (x >>> (nI j &&& 31)) &&& 1 = b2i (bt x j = true) := by
  apply b_ext
  intro i hi
  rw [b_and, b_one i hi]
  by_cases h0 : i = 0
  · subst h0
    rw [b_sshr j (by omega) x (by omega), if_pos (by omega)]
    by_cases hb : bt x j = true
    · rw [b2i_t hb, b_one 0 (by omega)]; simp [hb]
    · rw [b2i_f hb, b_0]; simp at hb; simp [hb]
  · rw [decide_eq_false h0, Bool.and_false]
    by_cases hb : bt x j = true
    · rw [b2i_t hb, b_one i hi, decide_eq_false h0]
    · rw [b2i_f hb, b_0]
theorem b_flip (x : Int32) {i j : Nat} (hi : i < 12) (hj : j < 12) : bt (x ^^^ (1 <<< (nI i &&& 31))) j = if j = i then !(bt x j) else bt x j := by
  rw [b_xor, b_shl i (by omega) 1 (by omega), b_one _ (by omega)]
  by_cases h : j = i
  · subst h
    rw [if_pos rfl]
    simp
  · rw [if_neg h]
    by_cases h2 : i ≤ j
    · rw [decide_eq_false (show ¬ j - i = 0 by omega)]; simp
    · rw [decide_eq_false h2]; simp
def relJ (jo jn : Nat → Int32) : Prop := ∀ i j, i < 12 → j < 12 → jo (i * 12 + j) = b2i (bt (jn i) j = true) ∧ bt (jn i) j = bt (jn j) i
theorem relJ_nar {jo jn : Nat → Int32} (h : relJ jo jn) : ∀ z, z < 144 → narrow .boolean (.int (jo z)) = .int (jo z) := fun z hz => by
  have e := (h (z / 12) (z % 12) (by omega) (by omega)).1
  rw [show z / 12 * 12 + z % 12 = z by omega] at e
  rw [e]
  exact b2i_nar _
theorem relJ_bit {jo jn : Nat → Int32} (h : relJ jo jn) {i j : Nat} (hi : i < 12) (hj : j < 12) : jo (i * 12 + j) = (jn i >>> (nI j &&& 31)) &&& 1 := by rw [b_bit _ hj]; exact (h i j hi hj).1
theorem relJ_flip {jo jn : Nat → Int32} (h : relJ jo jn) {j i : Nat} (hj : j < 12) (hi : i < 12) (hne : ¬ j = i) {P : Prop} (hd : ¬ jo (j * 12 + i) = b2i P) : relJ (upd (upd jo (j * 12 + i) (b2i P)) (i * 12 + j) (b2i P)) (upd (upd jn j (jn j ^^^ (1 <<< (nI i &&& 31)))) i (upd jn j (jn j ^^^ (1 <<< (nI i &&& 31))) i ^^^ (1 <<< (nI j &&& 31)))) := by
  have hd' : (bt (jn j) i = true) ↔ ¬ P := by
    rw [(h j i hj hi).1] at hd
    by_cases hp : P
    · rw [b2i_t hp] at hd
      exact ⟨fun q => absurd (b2i_t q) hd, fun q => absurd hp q⟩
    · rw [b2i_f hp] at hd
      refine ⟨fun _ => hp, fun _ => ?_⟩
      apply Classical.byContradiction
      intro q
      exact hd (b2i_f q)
  have hs := (h j i hj hi).2
  rw [pk_un (f := jn) (k := j) (j := i) (by omega)]
  have key : ∀ p q, p < 12 → q < 12 → bt (upd (upd jn j (jn j ^^^ (1 <<< (nI i &&& 31)))) i (jn i ^^^ (1 <<< (nI j &&& 31))) p) q = if (p = j ∧ q = i) ∨ (p = i ∧ q = j) then !(bt (jn p) q) else bt (jn p) q := by
    intro p q hp hq
    by_cases h1 : p = i
    · subst h1
      rw [pk_us, b_flip _ hj hq]
      by_cases h2 : q = j
      · rw [if_pos h2, if_pos (Or.inr ⟨rfl, h2⟩)]
      · rw [if_neg h2, if_neg (by omega)]
    · rw [pk_un h1]
      by_cases h2 : p = j
      · subst h2
        rw [pk_us, b_flip _ hi hq]
        by_cases h3 : q = i
        · rw [if_pos h3, if_pos (Or.inl ⟨rfl, h3⟩)]
        · rw [if_neg h3, if_neg (by omega)]
      · rw [pk_un h2, if_neg (by omega)]
  intro p q hp hq
  rw [key p q hp hq, key q p hq hp]
  have hpq := (h p q hp hq).2
  by_cases h1 : p = j ∧ q = i
  · obtain ⟨rfl, rfl⟩ := h1
    rw [if_pos (Or.inl ⟨rfl, rfl⟩), if_pos (Or.inr ⟨rfl, rfl⟩), pk_un (by omega), pk_us]
    refine ⟨b2i_c ?_, by rw [hpq]⟩
    cases hb : bt (jn p) q
    · rw [hb] at hd'; simp at hd'; simp [hd']
    · rw [hb] at hd'; simp at hd'; simp [hd']
  · by_cases h2 : p = i ∧ q = j
    · obtain ⟨rfl, rfl⟩ := h2
      rw [if_pos (Or.inr ⟨rfl, rfl⟩), if_pos (Or.inl ⟨rfl, rfl⟩), pk_us]
      refine ⟨b2i_c ?_, by rw [hpq]⟩
      rw [hs] at hd'
      cases hb : bt (jn p) q
      · rw [hb] at hd'; simp at hd'; simp [hd']
      · rw [hb] at hd'; simp at hd'; simp [hd']
    · rw [if_neg (by omega), if_neg (by omega), pk_un (by omega), pk_un (by omega)]
      exact h p q hp hq
/-! pure: cross products -/
theorem cL_lt {a b : Nat} (ha : a < 2 ^ 62) (hb : b < 2 ^ 62) : cmpL (lN a) (lN b) < 0 ↔ a < b := by
  unfold cmpL
  by_cases h : a < b
  · rw [if_pos ((pk_lLT (by omega) (by omega)).mpr h)]; exact ⟨fun _ => h, fun _ => by decide⟩
  · rw [if_neg (fun q => h ((pk_lLT (by omega) (by omega)).mp q))]
    refine ⟨fun q => absurd q ?_, fun q => absurd q h⟩
    by_cases e : lN a = lN b
    · rw [if_pos e]; decide
    · rw [if_neg e]; decide
theorem cL_eq {a b : Nat} (ha : a < 2 ^ 62) (hb : b < 2 ^ 62) : cmpL (lN a) (lN b) = 0 ↔ a = b := by
  unfold cmpL
  by_cases h : a < b
  · rw [if_pos ((pk_lLT (by omega) (by omega)).mpr h)]; exact ⟨fun q => absurd q (by decide), fun q => absurd q (by omega)⟩
  · rw [if_neg (fun q => h ((pk_lLT (by omega) (by omega)).mp q))]
    by_cases e : a = b
    · rw [if_pos ((pk_lEQ (by omega) (by omega)).mpr e)]; exact ⟨fun _ => e, fun _ => rfl⟩
    · rw [if_neg (fun q => e ((pk_lEQ (by omega) (by omega)).mp q))]; exact ⟨fun q => absurd q (by decide), fun q => absurd q e⟩
theorem cL_le {a b : Nat} (ha : a < 2 ^ 62) (hb : b < 2 ^ 62) : cmpL (lN a) (lN b) ≤ 0 ↔ a ≤ b := by
  have h1 := cL_lt ha hb
  have h2 := cL_eq ha hb
  constructor
  · intro h
    by_cases e : cmpL (lN a) (lN b) = 0
    · exact Nat.le_of_eq (h2.mp e)
    · exact Nat.le_of_lt (h1.mp (Int32.lt_of_le_of_ne h e))
  · intro h
    by_cases e : a = b
    · rw [h2.mpr e]; decide
    · exact Int32.le_of_lt (h1.mpr (by omega))
theorem mD_int {a b : Nat} (ha : a < 2 ^ 62) (hb : b < 2 ^ 62) : (lN a - lN b).toInt = (a : Int) - b := by
  rw [Int64.toInt_sub, pk_lT (by omega), pk_lT (by omega)]
  exact Int.bmod_eq_of_le (by omega) (by omega)
theorem mD_lt {a b : Nat} (ha : a < 2 ^ 62) (hb : b < 2 ^ 62) : lN a - lN b < 0 ↔ a < b := by
  rw [Int64.lt_iff_toInt_lt, mD_int ha hb, show (0 : Int64).toInt = 0 by decide]; omega
theorem mD_gt {a b : Nat} (ha : a < 2 ^ 62) (hb : b < 2 ^ 62) : 0 < lN a - lN b ↔ b < a := by
  rw [Int64.lt_iff_toInt_lt, mD_int ha hb, show (0 : Int64).toInt = 0 by decide]; omega
theorem mD_eq {a b : Nat} (ha : a < 2 ^ 62) (hb : b < 2 ^ 62) : lN a - lN b = 0 ↔ a = b := by
  rw [← Int64.toInt_inj, mD_int ha hb, show (0 : Int64).toInt = 0 by decide]; omega
def uvR (n : Nat) (up lo : Nat → Int64) (U V : Nat → Nat) : Prop := ∀ j, j < n → up j = lN (U j) ∧ lo j = lN (V j) ∧ 0 < U j ∧ U j ≤ 1000000000 ∧ V j ≤ 12000000
theorem uv_b {n : Nat} {up lo : Nat → Int64} {U V : Nat → Nat} (h : uvR n up lo U V) {i j : Nat} (hi : i < n) (hj : j < n) : U i * V j < 2 ^ 62 := by
  have : U i * V j ≤ 1000000000 * 12000000 := Nat.mul_le_mul (h i hi).2.2.2.1 (h j hj).2.2.2.2
  omega
theorem uv_told {n : Nat} {up lo : Nat → Int64} {U V : Nat → Nat} (h : uvR n up lo U V) {j : Nat} (hj : j < n) : 0 < lo j ↔ 0 < V j := by
  obtain ⟨-, e, -, -, hb⟩ := h j hj
  rw [e]
  exact pk_lLT (a := 0) (by omega) (by omega)
section UV
variable {n : Nat} {up lo : Nat → Int64} {U V : Nat → Nat} {rd ma mb mc co : Nat → Int32} (h : uvR n up lo U V) (g : uvR n (mUp rd ma mb mc) (mLo rd ma mb mc co) U V)
theorem uv_r {i j : Nat} (h : uvR n up lo U V) (hi : i < n) (hj : j < n) : rCmp up lo i j = cmpL (lN (U i * V j)) (lN (U j * V i)) := by
  show cmpL (up i * lo j) (up j * lo i) = _
  rw [(h i hi).1, (h j hj).1, (h i hi).2.1, (h j hj).2.1, lN_mul, lN_mul]
theorem uv_m {i j : Nat} (g : uvR n (mUp rd ma mb mc) (mLo rd ma mb mc co) U V) (hi : i < n) (hj : j < n) : mCmp rd ma mb mc co i j = lN (U i * V j) - lN (U j * V i) := by
  unfold mCmp
  rw [(g i hi).1, (g j hj).1, (g i hi).2.1, (g j hj).2.1, lN_mul, lN_mul]
theorem bef_eq (h : uvR n up lo U V) (g : uvR n (mUp rd ma mb mc) (mLo rd ma mb mc co) U V) {p : Nat} (hp : p < n) : rBef up lo n p = mBef rd ma mb mc co n p := by
  refine cnt_c n 0 (fun o _ ho => ?_)
  have ho : o < n := by omega
  have b1 := uv_b h ho hp
  have b2 := uv_b h hp ho
  unfold rBefP mBefP rEar
  rw [uv_r h ho hp, uv_m g ho hp, cL_lt b1 b2, cL_eq b1 b2, mD_lt b1 b2, mD_eq b1 b2, uv_told h ho, uv_told g ho]
theorem ord_eq (h : uvR n up lo U V) (g : uvR n (mUp rd ma mb mc) (mLo rd ma mb mc co) U V) (q : Int32) : fstF (rOrdP up lo n q) n 0 = fstF (mOrdP rd ma mb mc co n q) n 0 := by
  refine fst_c n 0 (fun o _ ho => ?_)
  have ho : o < n := by omega
  unfold rOrdP mOrdP
  rw [bef_eq h g ho, uv_told h ho, uv_told g ho]
theorem cross {ui vi ug vg up vp : Nat} (h1 : up * vg < ug * vp) (h2 : ug * vi < ui * vg) (h3 : 0 < vi) (h4 : 0 < vp) (h5 : 0 < vg) : up * vi < ui * vp := by
  have a1 : up * vg * vi < ug * vp * vi := Nat.mul_lt_mul_of_pos_right h1 h3
  have a2 : ug * vi * vp < ui * vg * vp := Nat.mul_lt_mul_of_pos_right h2 h4
  have e1 : ug * vp * vi = ug * vi * vp := by rw [Nat.mul_assoc, Nat.mul_comm vp vi, ← Nat.mul_assoc]
  have e2 : up * vg * vi = up * vi * vg := by rw [Nat.mul_assoc, Nat.mul_comm vg vi, ← Nat.mul_assoc]
  have e3 : ui * vg * vp = ui * vp * vg := by rw [Nat.mul_assoc, Nat.mul_comm vg vp, ← Nat.mul_assoc]
  have a3 : up * vi * vg < ui * vp * vg := by omega
  exact Nat.lt_of_mul_lt_mul_right a3
theorem nb_eq (h : uvR n up lo U V) (g : uvR n (mUp rd ma mb mc) (mLo rd ma mb mc co) U V) {jo jn : Nat → Int32} (hJ : relJ jo jn) (hn : n ≤ 12) {p : Nat} (hp : p < n) (hv : 0 < V p) :
    ∀ k i gc (gm : Int32), i + k = n → ((gc = p ∧ gm = -1) ∨ (¬ gc = p ∧ gm = nI gc ∧ gc < n ∧ 0 < V gc ∧ U p * V gc < U gc * V p)) →
      (@ite Int32 (bstF (rNbP up lo jo p) k i gc = p) (Classical.propDecidable _) (-1) (nI (bstF (rNbP up lo jo p) k i gc))) = mbF (mNbP rd ma mb mc co jn p) k i gm := by
  intro k
  induction k with
  | zero =>
    intro i gc gm _ hs
    show (@ite Int32 (gc = p) (Classical.propDecidable _) (-1) (nI gc)) = gm
    rcases hs with ⟨e1, e2⟩ | ⟨e1, e2, -⟩
    · rw [if_pos e1, e2]
    · rw [if_neg e1, e2]
  | succ k ih =>
    intro i gc gm hk hs
    have hi : i < n := by omega
    have hbit := relJ_bit hJ (show p < 12 by omega) (show i < 12 by omega)
    have hmay : (¬ jo (p * 12 + i) = 0 ∧ 0 < lo i) ↔ mMay rd ma mb mc co jn p i := by
      unfold mMay
      rw [← hbit, uv_told h hi, uv_told g hi, (hJ p i (by omega) (by omega)).1, b2i_0, b2i_1]
      exact ⟨fun q => ⟨Classical.byContradiction q.1, q.2⟩, fun q => ⟨fun z => z q.1, q.2⟩⟩
    by_cases hm : mMay rd ma mb mc co jn p i
    · have hmc := hmay.mpr hm
      have hvi : 0 < V i := (uv_told h hi).mp hmc.2
      have b1 := uv_b h hi hp
      have b2 := uv_b h hp hi
      rcases hs with ⟨e1, e2⟩ | ⟨e1, e2, hgn, hvg, hgr⟩
      · have e1 := e1.symm
        subst e1
        by_cases ht : U p * V i < U i * V p
        · have y1 : rNbP up lo jo p i p := ⟨hmc.1, hmc.2, fun z => by rw [uv_r h hi hp, cL_le b1 b2] at z; omega⟩
          have y2 : mNbP rd ma mb mc co jn p i gm := ⟨hm, by rw [uv_m g hi hp]; exact (mD_gt b1 b2).mpr ht, Or.inl (by rw [e2]; decide)⟩
          rw [bstF_y y1, mbF_y y2]
          refine ih (i + 1) i (nI i) (by omega) (Or.inr ⟨fun z => ?_, rfl, hi, hvi, ht⟩)
          subst z
          omega
        · have n1 : ¬ rNbP up lo jo p i p := fun z => z.2.2 (by rw [uv_r h hi hp, cL_le b1 b2]; omega)
          have n2 : ¬ mNbP rd ma mb mc co jn p i gm := fun z => ht ((mD_gt b1 b2).mp (by rw [← uv_m g hi hp]; exact z.2.1))
          rw [bstF_n n1, mbF_n n2]
          exact ih (i + 1) p gm (by omega) (Or.inl ⟨rfl, e2⟩)
      · have c1 := uv_b h hi hgn
        have c2 := uv_b h hgn hi
        by_cases ht : U gc * V i < U i * V gc
        · have hc := cross hgr ht hvi hv hvg
          have y1 : rNbP up lo jo p i gc := ⟨hmc.1, hmc.2, fun z => by rw [uv_r h hi hgn, cL_le c1 c2] at z; omega⟩
          have y2 : mNbP rd ma mb mc co jn p i gm := ⟨hm, by rw [uv_m g hi hp]; exact (mD_gt b1 b2).mpr hc, Or.inr (by rw [e2, nI_clamp (by omega), uv_m g hi hgn]; exact (mD_gt c1 c2).mpr ht)⟩
          rw [bstF_y y1, mbF_y y2]
          refine ih (i + 1) i (nI i) (by omega) (Or.inr ⟨fun z => ?_, rfl, hi, hvi, hc⟩)
          subst z
          omega
        · have n1 : ¬ rNbP up lo jo p i gc := fun z => z.2.2 (by rw [uv_r h hi hgn, cL_le c1 c2]; omega)
          have n2 : ¬ mNbP rd ma mb mc co jn p i gm := fun z => by
            rcases z.2.2 with q | q
            · rw [e2] at q; exact nI_pos (by omega) q
            · rw [e2, nI_clamp (by omega), uv_m g hi hgn] at q
              exact ht ((mD_gt c1 c2).mp q)
          rw [bstF_n n1, mbF_n n2]
          exact ih (i + 1) gc gm (by omega) (Or.inr ⟨e1, e2, hgn, hvg, hgr⟩)
    · rw [bstF_n (fun z => hm (hmay.mp ⟨z.1, z.2.1⟩)), mbF_n (fun z => hm z.1)]
      exact ih (i + 1) gc gm (by omega) hs
theorem feed_eq (h : uvR n up lo U V) (g : uvR n (mUp rd ma mb mc) (mLo rd ma mb mc co) U V) {jo jn ri ro : Nat → Int32} (hJ : relJ jo jn) (hn : n ≤ 12) {p : Nat} (hp : p < n) (e1 : ri p = ro p) (e2 : ro p = -1 ∨ ¬ ro p < 0) : rFeed up lo ri jo n p = mFeed rd ma mb mc co jn ro n p := by
  unfold rFeed mFeed
  by_cases ht : 0 < V p
  · rw [if_pos ((uv_told h hp).mpr ht), if_pos ((uv_told g hp).mpr ht), e1]
    rcases e2 with e2 | e2
    · rw [if_pos e2, if_pos (by rw [e2]; decide)]
      exact nb_eq h g hJ hn hp ht n 0 p (-1) (by omega) (Or.inl ⟨rfl, rfl⟩)
    · rw [if_neg (fun z => e2 (by rw [z]; decide)), if_neg e2]
  · rw [if_neg (fun z => ht ((uv_told h hp).mp z)), if_neg (fun z => ht ((uv_told g hp).mp z))]
end UV
