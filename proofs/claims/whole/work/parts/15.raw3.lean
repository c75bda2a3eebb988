theorem iinc_m1 (x : Int32) : x + Int32.ofInt (-1) = x - 1 := by rw [Int32.sub_eq_add_neg]; rfl
def thrI (x y z : Int32) : Int32 := if x = 0 then (if y = 0 then (if z = 0 then 0 else 3) else 2) else 1
theorem thrI_1 {x y z : Int32} (h : ¬ x = 0) : thrI x y z = 1 := if_neg h
theorem thrI_2 {x y z : Int32} (h : x = 0) (h2 : ¬ y = 0) : thrI x y z = 2 := by unfold thrI; rw [if_pos h, if_neg h2]
theorem thrI_3 {x y z : Int32} (h : x = 0) (h2 : y = 0) (h3 : ¬ z = 0) : thrI x y z = 3 := by unfold thrI; rw [if_pos h, if_pos h2, if_neg h3]
theorem thrI_0 {x y z : Int32} (h : x = 0) (h2 : y = 0) (h3 : z = 0) : thrI x y z = 0 := by unfold thrI; rw [if_pos h, if_pos h2, if_pos h3]
theorem rng_part {j n : Nat} (h : j < n) (hn : n ≤ 40) : rngI (nI j) 0 (nI n - 1) := by
  obtain ⟨t, rfl⟩ : ∃ z, n = z + 1 := ⟨n - 1, by omega⟩
  rw [nI_pred]
  exact ⟨nI_pos (by omega), nI_nlt (by omega) (by omega)⟩
def co6 (co : Nat → Int32) (n : Nat) : Nat → Int32 := upd (upd (upd (upd (upd (upd co (6 * n + 0) 1) (6 * n + 1) 1) (6 * n + 2) 1) (6 * n + 3) 1) (6 * n + 4) 1) (6 * n + 5) 1
/-- Euclid as the reference goes: on naturals, y > 0 goes on -/
def mBefP (rd ma mb mc co : Nat → Int32) (p o : Nat) : Prop := 0 < mLo rd ma mb mc co o ∧ (mCmp rd ma mb mc co o p < 0 ∨ (mCmp rd ma mb mc co o p = 0 ∧ o < p))
noncomputable def mBef (rd ma mb mc co : Nat → Int32) (n p : Nat) : Nat := cntF (mBefP rd ma mb mc co p) n 0
def mOrdP (rd ma mb mc co : Nat → Int32) (n : Nat) (q : Int32) (i : Nat) : Prop := 0 < mLo rd ma mb mc co i ∧ nI (mBef rd ma mb mc co n i) = q
def mFitP (rd ma mb mc co md mh : Nat → Int32) (j i : Nat) : Prop := 6 * mUp rd ma mb mc j * (4 * (mh i).toInt64 + (md i).toInt64) ≤ 5 * ((md i).toInt64 * (mh i).toInt64) * mLo rd ma mb mc co j
noncomputable def rwF (P : Nat → Prop) : Nat → Int32 → Int32
  | 0, f => f
  | t + 1, f => rwF P t (@ite Int32 (P t) (Classical.propDecidable _) (nI t) f)
theorem rwF_y {P : Nat → Prop} {t : Nat} {f : Int32} (h : P t) : rwF P (t + 1) f = rwF P t (nI t) := by
  show rwF P t (@ite Int32 (P t) (Classical.propDecidable _) (nI t) f) = _
  rw [if_pos h]
theorem rwF_n {P : Nat → Prop} {t : Nat} {f : Int32} (h : ¬ P t) : rwF P (t + 1) f = rwF P t f := by
  show rwF P t (@ite Int32 (P t) (Classical.propDecidable _) (nI t) f) = _
  rw [if_neg h]
def mMay (rd ma mb mc co jn : Nat → Int32) (j i : Nat) : Prop := (jn j >>> (nI i &&& 31)) &&& 1 = 1 ∧ 0 < mLo rd ma mb mc co i
def mNbP (rd ma mb mc co jn : Nat → Int32) (j i : Nat) (g : Int32) : Prop := mMay rd ma mb mc co jn j i ∧ 0 < mCmp rd ma mb mc co i j ∧ (g < 0 ∨ 0 < mCmp rd ma mb mc co i g.toNatClampNeg)
noncomputable def mbF (B : Nat → Int32 → Prop) : Nat → Nat → Int32 → Int32
  | 0, _, g => g
  | k + 1, i, g => mbF B k (i + 1) (@ite Int32 (B i g) (Classical.propDecidable _) (nI i) g)
theorem mbF_y {B : Nat → Int32 → Prop} {k i : Nat} {g : Int32} (h : B i g) : mbF B (k + 1) i g = mbF B k (i + 1) (nI i) := by
  show mbF B k (i + 1) (@ite Int32 (B i g) (Classical.propDecidable _) (nI i) g) = _
  rw [if_pos h]
theorem mbF_n {B : Nat → Int32 → Prop} {k i : Nat} {g : Int32} (h : ¬ B i g) : mbF B (k + 1) i g = mbF B k (i + 1) g := by
  show mbF B k (i + 1) (@ite Int32 (B i g) (Classical.propDecidable _) (nI i) g) = _
  rw [if_neg h]
noncomputable def mFeed (rd ma mb mc co jn ro : Nat → Int32) (n j : Nat) : Int32 := @ite Int32 (0 < mLo rd ma mb mc co j) (Classical.propDecidable _) (@ite Int32 (ro j < 0) (Classical.propDecidable _) (mbF (mNbP rd ma mb mc co jn j) n 0 (-1)) (100 + ro j)) (-2)
noncomputable def mfF (mo : Nat → Int32) (q : Int32) : Nat → Nat → Nat
  | 0, i => i
  | k + 1, i => @ite Nat (q ≤ mo i) (Classical.propDecidable _) i (mfF mo q k (i + 1))
theorem mfF_y {mo : Nat → Int32} {q : Int32} {k i : Nat} (h : q ≤ mo i) : mfF mo q k i = i := by
  cases k with
  | zero => rfl
  | succ k => exact if_pos h
theorem mfF_n {mo : Nat → Int32} {q : Int32} {k i : Nat} (h : ¬ q ≤ mo i) : mfF mo q (k + 1) i = mfF mo q k (i + 1) := if_neg h
def mIp (mo mf : Nat → Int32) (q : Int32) (i : Nat) : Int32 := mf (i - 1) + ((mf i - mf (i - 1)).toInt64 * (q - mo (i - 1)).toInt64 / (mo i - mo (i - 1)).toInt64).toInt32
noncomputable def mFl (mo mf : Nat → Int32) (nf : Nat) (q : Int32) : Int32 := @ite Int32 (mo 0 < q) (Classical.propDecidable _) (@ite Int32 (q < mo (nf - 1)) (Classical.propDecidable _) (mIp mo mf q (mfF mo q (nf - 2) 1)) (mf (nf - 1))) (mf 0)
theorem i64_sne {x y q : Int32} (h : x < q) (h2 : q ≤ y) : ¬ (y - x).toInt64 = 0 := fun e => by
  have h1 : (y - x).toInt64.toInt = (0 : Int64).toInt := by rw [e]
  rw [Int32.toInt_toInt64] at h1
  have h3 : y - x = 0 := Int32.toInt_inj.mp (h1.trans (by decide))
  have h4 : y = x := by
    have h5 := congrArg (· + x) h3
    simpa [Int32.sub_add_cancel] using h5
  rw [h4] at h2
  exact absurd h (Int32.not_lt.mpr h2)
noncomputable def tkF (xf xw : Nat → Int32) (j : Nat) : Nat → Nat → Int32 → Int32
  | 0, _, s => s
  | k + 1, i, s => tkF xf xw j k (i + 1) (s + @ite Int32 (xf i = xf j) (Classical.propDecidable _) (xw i) 0)
theorem tkF_y {xf xw : Nat → Int32} {j k i : Nat} {s : Int32} (h : xf i = xf j) : tkF xf xw j (k + 1) i s = tkF xf xw j k (i + 1) (s + xw i) := by
  show tkF xf xw j k (i + 1) (s + @ite Int32 (xf i = xf j) (Classical.propDecidable _) (xw i) 0) = _
  rw [if_pos h]
theorem tkF_n {xf xw : Nat → Int32} {j k i : Nat} {s : Int32} (h : ¬ xf i = xf j) : tkF xf xw j (k + 1) i s = tkF xf xw j k (i + 1) (s + 0) := by
  show tkF xf xw j k (i + 1) (s + @ite Int32 (xf i = xf j) (Classical.propDecidable _) (xw i) 0) = _
  rw [if_neg h]
noncomputable def mTk (xf xw : Nat → Int32) (nt j : Nat) : Int32 := tkF xf xw j (nt - j) j 0
def mShP (bw : Int32) (xa xf xw xd : Nat → Int32) (nt : Nat) (x y : Int32) (i : Nat) : Prop := xa i = 0 ∧ ¬ xd i < y ∧ ¬ bw < mTk xf xw nt i + x
noncomputable def seF (xa xf xd : Nat → Int32) : Nat → Nat → Int32 → Int32
  | 0, _, e => e
  | k + 1, i, e => seF xa xf xd k (i + 1) (@ite Int32 (xa i = 0 ∧ e < xf i + xd i) (Classical.propDecidable _) (xf i + xd i) e)
theorem seF_y {xa xf xd : Nat → Int32} {k i : Nat} {e : Int32} (h : xa i = 0 ∧ e < xf i + xd i) : seF xa xf xd (k + 1) i e = seF xa xf xd k (i + 1) (xf i + xd i) := by
  show seF xa xf xd k (i + 1) (@ite Int32 (xa i = 0 ∧ e < xf i + xd i) (Classical.propDecidable _) (xf i + xd i) e) = _
  rw [if_pos h]
theorem seF_n {xa xf xd : Nat → Int32} {k i : Nat} {e : Int32} (h : ¬ (xa i = 0 ∧ e < xf i + xd i)) : seF xa xf xd (k + 1) i e = seF xa xf xd k (i + 1) e := by
  show seF xa xf xd k (i + 1) (@ite Int32 (xa i = 0 ∧ e < xf i + xd i) (Classical.propDecidable _) (xf i + xd i) e) = _
  rw [if_neg h]
